set_option maxHeartbeats 4000000 in
set_option maxRecDepth 20000 in
theorem c_X12_may {E : zE} {l : Launch} (hst : l.stackTraces = false) (a : Nat) (x1 : Int) (x2 : Int) (x3 : Int) : Con E l yX12_may cX12_may 4 (some .boolean) { frames := 0, cells := 0, slots := 0, locals := 0 } (fun G s vs => vs = [.ref a, .int (zI x1), .int (zI x2), .int (zI x3)] ∧ zGK G ∧ zSK G s ∧ (gT G a = 13) ∧ (0 ≤ x1 ∧ x1 ≤ 1) ∧ ((-2147483648) ≤ x2 ∧ x2 ≤ 2147483647) ∧ ((-2147483648) ≤ x3 ∧ x3 ≤ 2147483647)) (fun G s _ => pI (fun r G2 s2 => G2 = G ∧ zSK G s2 ∧ zFr [13, 71] G s s2 ∧ (0 ≤ r ∧ r ≤ 1))) := by
  refine Con.mk hst (by decide) (fun G s vs h => by rw [h.1]; exact Nat.le_of_ble_eq_true rfl) ?_
  rintro X G s0 vs ⟨rfl, hG, hS0, ha, hx1, hx2, hx3⟩ rfl hx hq
  show JJ X E 4 G s0 0 0 [(0, .ref a), (1, .int (zI x1)), (2, .int (zI x2)), (3, .int (zI x3))] 0 []
  refine j_iload_n hx 1 dX12_may_0 rfl ?_
  have c26_1 : ∀ (s2 : zS), (zSK G s2) → (zFr [13, 71] G s0 s2) → JJ X E 4 G s2 0 0 [(0, .ref a)] 26 [] := by
    intro s2 hS_s2 hF_s2
    refine j_aload_n hx 0 dX12_may_26 rfl ?_
    have f1 := zf hS_s2 ha (k := 0) rfl
    refine g13_0 hx hG ha kf_RX12_3 rfl dX12_may_27 ?_
    refine j_if_ne hx 37 dX12_may_30 rfl (by omega) (fun h2 => ?_) (fun h2 => ?_)
    · skip
      refine j_iconst hx dX12_may_37 ?_
      exact j_zret hx hq rfl (by decide) (by decide) dX12_may_38 (by omega) ⟨0, rfl, rfl, hS_s2, (zFr_t zFr_rf hF_s2 (by decide)), (by omega)⟩
    · skip
      refine j_iconst hx dX12_may_33 ?_
      refine j_goto hx 38 dX12_may_34 rfl ?_
      exact j_zret hx hq rfl (by decide) (by decide) dX12_may_38 (by omega) ⟨1, rfl, rfl, hS_s2, (zFr_t zFr_rf hF_s2 (by decide)), (by omega)⟩
  refine j_if_ne hx 26 dX12_may_1 rfl (by omega) (fun h3 => ?_) (fun h3 => ?_)
  · skip
    exact j_sub [0] [(0, .ref a)] rfl (c26_1 s0 hS0 zFr_rf)
  · skip
    refine j_aload_n hx 0 dX12_may_4 rfl ?_
    have f4 := zf hS0 ha (k := 0) rfl
    refine g13_0 hx hG ha kf_RX12_3 rfl dX12_may_5 ?_
    refine j_if_ne hx 26 dX12_may_8 rfl (by omega) (fun h5 => ?_) (fun h5 => ?_)
    · skip
      exact j_sub [0] [(0, .ref a)] rfl (c26_1 s0 hS0 zFr_rf)
    · skip
      refine j_aload_n hx 0 dX12_may_11 rfl ?_
      refine j_iload_n hx 2 dX12_may_12 rfl ?_
      refine p13_0 hx hG ha kf_RX12_3 dX12_may_13 ?_
      obtain ⟨s5, e_s5⟩ : ∃ z, z = zU s0 a 0 x2 := ⟨_, rfl⟩
      rw [← e_s5]
      have hS_s5 : zSK G s5 := by rw [e_s5]; exact zSK_F hS0 ha rfl rfl rfl (by omega)
      refine j_aload_n hx 0 dX12_may_16 rfl ?_
      refine g13_1 hx hG ha kf_RX12_7 dX12_may_17 ?_
      refine j_iload_n hx 3 dX12_may_20 rfl ?_
      refine j_dup2 hx dX12_may_21 rfl rfl ?_
      have f6 := zaI (j := (x3).toNat) hS0 (zr (k := 1) (t2 := 71) hG ha rfl) rfl (zlen hG (zr (k := 1) (t2 := 71) hG ha rfl) (n := 2) rfl rfl) (show 0 ≤ x3 by omega) (by omega) rfl
      refine j_iald hx hG (zr (k := 1) (t2 := 71) hG ha rfl) (by decide) rfl (zlen hG (zr (k := 1) (t2 := 71) hG ha rfl) (n := 2) rfl rfl) (by omega) (by omega) (j := (x3).toNat) rfl (v := (s0 (gP G a 1) (x3).toNat)) (by rw [e_s5, zU_at (Or.inl (zne ha (zr (k := 1) (t2 := 71) hG ha rfl) (by decide)))]) dX12_may_22 ?_
      refine j_iconst hx dX12_may_23 ?_
      refine j_iadd hx (r := (s0 (gP G a 1) (x3).toNat) + 1) dX12_may_24 (by omega) ?_
      refine j_iast hx hG (zr (k := 1) (t2 := 71) hG ha rfl) (by decide) rfl (zlen hG (zr (k := 1) (t2 := 71) hG ha rfl) (n := 2) rfl rfl) (by omega) (by omega) (j := (x3).toNat) rfl dX12_may_25 ?_
      obtain ⟨s6, e_s6⟩ : ∃ z, z = zU s5 (gP G a 1) (x3).toNat ((s0 (gP G a 1) (x3).toNat) + 1) := ⟨_, rfl⟩
      rw [← e_s6]
      have hS_s6 : zSK G s6 := by rw [e_s6]; exact zSK_A hS_s5 (zr (k := 1) (t2 := 71) hG ha rfl) rfl rfl rfl (by omega)
      exact j_sub [0] [(0, .ref a)] rfl (c26_1 s6 hS_s6 (zFr_u (zFr_u zFr_rf e_s5 ha (by decide)) e_s6 (zr (k := 1) (t2 := 71) hG ha rfl) (by decide)))

set_option maxHeartbeats 4000000 in
set_option maxRecDepth 20000 in
theorem c_X12_begins {E : zE} {l : Launch} (hst : l.stackTraces = false) (a : Nat) (x1 : Int) : Con E l yX12_begins cX12_begins 2 none { frames := 0, cells := 0, slots := 0, locals := 0 } (fun G s vs => vs = [.ref a, .int (zI x1)] ∧ zGK G ∧ zSK G s ∧ (gT G a = 13) ∧ ((-2147483648) ≤ x1 ∧ x1 ≤ 2147483647)) (fun G s _ => pV (fun G2 s2 => G2 = G ∧ zSK G s2 ∧ zFr [13] G s s2 ∧ True)) := by
  refine Con.mk hst (by decide) (fun G s vs h => by rw [h.1]; exact Nat.le_of_ble_eq_true rfl) ?_
  rintro X G s0 vs ⟨rfl, hG, hS0, ha, hx1⟩ rfl hx hq
  show JJ X E 2 G s0 0 0 [(0, .ref a), (1, .int (zI x1))] 0 []
  refine j_aload_n hx 0 dX12_begins_0 rfl ?_
  refine j_iconst hx dX12_begins_1 ?_
  refine p13_2 hx hG ha kf_RX12_134 dX12_begins_2 ?_
  obtain ⟨s1, e_s1⟩ : ∃ z, z = zU s0 a 2 0 := ⟨_, rfl⟩
  rw [← e_s1]
  have hS_s1 : zSK G s1 := by rw [e_s1]; exact zSK_F hS0 ha rfl rfl rfl (by omega)
  refine j_aload_n hx 0 dX12_begins_5 rfl ?_
  refine j_iconst hx dX12_begins_6 ?_
  refine p13_8 hx hG ha kf_RX12_17 dX12_begins_7 ?_
  obtain ⟨s2, e_s2⟩ : ∃ z, z = zU s1 a 8 (-1) := ⟨_, rfl⟩
  rw [← e_s2]
  have hS_s2 : zSK G s2 := by rw [e_s2]; exact zSK_F hS_s1 ha rfl rfl rfl (by omega)
  refine j_aload_n hx 0 dX12_begins_10 rfl ?_
  refine j_iload_n hx 1 dX12_begins_11 rfl ?_
  refine p13_3 hx hG ha kf_RX12_146 dX12_begins_12 ?_
  obtain ⟨s3, e_s3⟩ : ∃ z, z = zU s2 a 3 x1 := ⟨_, rfl⟩
  rw [← e_s3]
  have hS_s3 : zSK G s3 := by rw [e_s3]; exact zSK_F hS_s2 ha rfl rfl rfl (by omega)
  refine j_aload_n hx 0 dX12_begins_15 rfl ?_
  refine j_iconst hx dX12_begins_16 ?_
  refine p13_4 hx hG ha kf_RX12_143 dX12_begins_17 ?_
  obtain ⟨s4, e_s4⟩ : ∃ z, z = zU s3 a 4 0 := ⟨_, rfl⟩
  rw [← e_s4]
  have hS_s4 : zSK G s4 := by rw [e_s4]; exact zSK_F hS_s3 ha rfl rfl rfl (by omega)
  refine j_aload_n hx 0 dX12_begins_20 rfl ?_
  refine j_iconst hx dX12_begins_21 ?_
  refine p13_5 hx hG ha kf_RX12_137 dX12_begins_22 ?_
  obtain ⟨s5, e_s5⟩ : ∃ z, z = zU s4 a 5 (-1) := ⟨_, rfl⟩
  rw [← e_s5]
  have hS_s5 : zSK G s5 := by rw [e_s5]; exact zSK_F hS_s4 ha rfl rfl rfl (by omega)
  refine j_aload_n hx 0 dX12_begins_25 rfl ?_
  refine j_iconst hx dX12_begins_26 ?_
  refine p13_7 hx hG ha kf_RX12_177 dX12_begins_27 ?_
  obtain ⟨s6, e_s6⟩ : ∃ z, z = zU s5 a 7 0 := ⟨_, rfl⟩
  rw [← e_s6]
  have hS_s6 : zSK G s6 := by rw [e_s6]; exact zSK_F hS_s5 ha rfl rfl rfl (by omega)
  exact j_vret hx hq rfl (by decide) (by decide) dX12_begins_30 ⟨rfl, rfl, hS_s6, (zFr_u (zFr_u (zFr_u (zFr_u (zFr_u (zFr_u zFr_rf e_s1 ha (by decide)) e_s2 ha (by decide)) e_s3 ha (by decide)) e_s4 ha (by decide)) e_s5 ha (by decide)) e_s6 ha (by decide)), trivial⟩

set_option maxHeartbeats 4000000 in
set_option maxRecDepth 20000 in
theorem c_X12_clears {E : zE} {l : Launch} (hst : l.stackTraces = false) (a : Nat) : Con E l yX12_clears cX12_clears 2 none { frames := 0, cells := 0, slots := 0, locals := 0 } (fun G s vs => vs = [.ref a] ∧ zGK G ∧ zSK G s ∧ (gT G a = 13)) (fun G s _ => pV (fun G2 s2 => G2 = G ∧ zSK G s2 ∧ zFr [13, 74, 76, 77, 78] G s s2 ∧ True)) := by
  refine Con.mk hst (by decide) (fun G s vs h => by rw [h.1]; exact Nat.le_of_ble_eq_true rfl) ?_
  rintro X G s0 vs ⟨rfl, hG, hS0, ha⟩ rfl hx hq
  show JJ X E 2 G s0 0 0 [(0, .ref a)] 0 []
  refine j_aload_n hx 0 dX12_clears_0 rfl ?_
  refine j_iconst hx dX12_clears_1 ?_
  refine p13_21 hx hG ha kf_RX12_180 dX12_clears_2 ?_
  obtain ⟨s1, e_s1⟩ : ∃ z, z = zU s0 a 21 0 := ⟨_, rfl⟩
  rw [← e_s1]
  have hS_s1 : zSK G s1 := by rw [e_s1]; exact zSK_F hS0 ha rfl rfl rfl (by omega)
  refine j_aload_n hx 0 dX12_clears_5 rfl ?_
  refine j_iconst hx dX12_clears_6 ?_
  refine p13_22 hx hG ha kf_RX12_183 dX12_clears_7 ?_
  obtain ⟨s2, e_s2⟩ : ∃ z, z = zU s1 a 22 0 := ⟨_, rfl⟩
  rw [← e_s2]
  have hS_s2 : zSK G s2 := by rw [e_s2]; exact zSK_F hS_s1 ha rfl rfl rfl (by omega)
  refine j_aload_n hx 0 dX12_clears_10 rfl ?_
  refine j_iconst hx dX12_clears_11 ?_
  refine p13_23 hx hG ha kf_RX12_186 dX12_clears_12 ?_
  obtain ⟨s3, e_s3⟩ : ∃ z, z = zU s2 a 23 0 := ⟨_, rfl⟩
  rw [← e_s3]
  have hS_s3 : zSK G s3 := by rw [e_s3]; exact zSK_F hS_s2 ha rfl rfl rfl (by omega)
  refine j_iconst hx dX12_clears_15 ?_
  refine j_istore_n hx [(1, .int (zI 0)), (0, .ref a)] dX12_clears_16 (by decide) rfl ?_
  have c17_4 : ∀ (m_c17_4 : Nat) (v1 : Int) (s5 : zS), 2147483648 - v1 < m_c17_4 → (0 ≤ v1 ∧ v1 ≤ 3) → (zSK G s5) → (zFr [74, 76, 77, 78] G s3 s5) → JJ X E 2 G s5 0 0 [(0, .ref a), (1, .int (zI v1))] 17 [] := by
    intro m_c17_4
    induction m_c17_4 with
    | zero => intro v1 s5 hm_c17_4 f6 hS_s5 hF_s5; exfalso; omega
    | succ m_c17_4 ih_c17_4 => 
      intro v1 s5 hm_c17_4 f6 hS_s5 hF_s5
      refine j_iload_n hx 1 dX12_clears_17 rfl ?_
      refine j_iconst hx dX12_clears_18 ?_
      refine j_icmp_ge hx 56 dX12_clears_19 rfl (by omega) ⟨by decide, by decide⟩ (fun h2 => ?_) (fun h2 => ?_)
      · skip
        exact j_vret hx hq rfl (by decide) (by decide) dX12_clears_56 ⟨rfl, rfl, hS_s5, (zFr_t (zFr_u (zFr_u (zFr_u zFr_rf e_s1 ha (by decide)) e_s2 ha (by decide)) e_s3 ha (by decide)) hF_s5 (by decide)), trivial⟩
      · skip
        refine j_aload_n hx 0 dX12_clears_22 rfl ?_
        refine g13_11 hx hG ha kf_RX12_26 dX12_clears_23 ?_
        refine j_iload_n hx 1 dX12_clears_26 rfl ?_
        refine j_iconst hx dX12_clears_27 ?_
        refine j_iast hx hG (zr (k := 11) (t2 := 74) hG ha rfl) (by decide) rfl (zlen hG (zr (k := 11) (t2 := 74) hG ha rfl) (n := 3) rfl rfl) (by omega) (by omega) (j := (v1).toNat) rfl dX12_clears_28 ?_
        obtain ⟨s9, e_s9⟩ : ∃ z, z = zU s5 (gP G a 11) (v1).toNat 5 := ⟨_, rfl⟩
        rw [← e_s9]
        have hS_s9 : zSK G s9 := by rw [e_s9]; exact zSK_A hS_s5 (zr (k := 11) (t2 := 74) hG ha rfl) rfl rfl rfl (by omega)
        refine j_aload_n hx 0 dX12_clears_29 rfl ?_
        refine g13_13 hx hG ha kf_RX12_32 dX12_clears_30 ?_
        refine j_iload_n hx 1 dX12_clears_33 rfl ?_
        refine j_iconst hx dX12_clears_34 ?_
        refine j_iast hx hG (zr (k := 13) (t2 := 76) hG ha rfl) (by decide) rfl (zlen hG (zr (k := 13) (t2 := 76) hG ha rfl) (n := 3) rfl rfl) (by omega) (by omega) (j := (v1).toNat) rfl dX12_clears_35 ?_
        obtain ⟨s10, e_s10⟩ : ∃ z, z = zU s9 (gP G a 13) (v1).toNat 0 := ⟨_, rfl⟩
        rw [← e_s10]
        have hS_s10 : zSK G s10 := by rw [e_s10]; exact zSK_A hS_s9 (zr (k := 13) (t2 := 76) hG ha rfl) rfl rfl rfl (by omega)
        refine j_aload_n hx 0 dX12_clears_36 rfl ?_
        refine g13_14 hx hG ha kf_RX12_35 dX12_clears_37 ?_
        refine j_iload_n hx 1 dX12_clears_40 rfl ?_
        refine j_iconst hx dX12_clears_41 ?_
        refine j_iast hx hG (zr (k := 14) (t2 := 77) hG ha rfl) (by decide) rfl (zlen hG (zr (k := 14) (t2 := 77) hG ha rfl) (n := 3) rfl rfl) (by omega) (by omega) (j := (v1).toNat) rfl dX12_clears_42 ?_
        obtain ⟨s11, e_s11⟩ : ∃ z, z = zU s10 (gP G a 14) (v1).toNat 0 := ⟨_, rfl⟩
        rw [← e_s11]
        have hS_s11 : zSK G s11 := by rw [e_s11]; exact zSK_A hS_s10 (zr (k := 14) (t2 := 77) hG ha rfl) rfl rfl rfl (by omega)
        refine j_aload_n hx 0 dX12_clears_43 rfl ?_
        refine g13_15 hx hG ha kf_RX12_38 dX12_clears_44 ?_
        refine j_iload_n hx 1 dX12_clears_47 rfl ?_
        refine j_iconst hx dX12_clears_48 ?_
        refine j_iast hx hG (zr (k := 15) (t2 := 78) hG ha rfl) (by decide) rfl (zlen hG (zr (k := 15) (t2 := 78) hG ha rfl) (n := 3) rfl rfl) (by omega) (by omega) (j := (v1).toNat) rfl dX12_clears_49 ?_
        obtain ⟨s12, e_s12⟩ : ∃ z, z = zU s11 (gP G a 15) (v1).toNat 0 := ⟨_, rfl⟩
        rw [← e_s12]
        have hS_s12 : zSK G s12 := by rw [e_s12]; exact zSK_A hS_s11 (zr (k := 15) (t2 := 78) hG ha rfl) rfl rfl rfl (by omega)
        refine j_iinc hx 1 [(1, .int (zI (v1 + 1))), (0, .ref a)] dX12_clears_50 rfl (by omega) (by decide) rfl ?_
        refine j_goto hx 17 dX12_clears_53 rfl ?_
        exact j_sub [1, 0] [(0, .ref a), (1, .int (zI (v1 + 1)))] rfl (ih_c17_4 (v1 + 1) s12 (by omega) (by omega) hS_s12 (zFr_u (zFr_u (zFr_u (zFr_u (zFr_t zFr_rf hF_s5 (by decide)) e_s9 (zr (k := 11) (t2 := 74) hG ha rfl) (by decide)) e_s10 (zr (k := 13) (t2 := 76) hG ha rfl) (by decide)) e_s11 (zr (k := 14) (t2 := 77) hG ha rfl) (by decide)) e_s12 (zr (k := 15) (t2 := 78) hG ha rfl) (by decide)))
  exact j_sub [1, 0] [(0, .ref a), (1, .int (zI 0))] rfl (c17_4 (2147483648 * 4) 0 s3 (by omega) (by omega) hS_s3 zFr_rf)

set_option maxHeartbeats 4000000 in
set_option maxRecDepth 20000 in
theorem c_X12_fine {E : zE} {l : Launch} (hst : l.stackTraces = false) (a : Nat) : Con E l yX12_fine cX12_fine 1 (some .boolean) { frames := 0, cells := 0, slots := 0, locals := 0 } (fun G s vs => vs = [.ref a] ∧ zGK G ∧ zSK G s ∧ (gT G a = 13)) (fun G s _ => pI (fun r G2 s2 => G2 = G ∧ s2 = s ∧ (0 ≤ r ∧ r ≤ 1))) := by
  refine Con.mk hst (by decide) (fun G s vs h => by rw [h.1]; exact Nat.le_of_ble_eq_true rfl) ?_
  rintro X G s0 vs ⟨rfl, hG, hS0, ha⟩ rfl hx hq
  show JJ X E 1 G s0 0 0 [(0, .ref a)] 0 []
  refine j_aload_n hx 0 dX12_fine_0 rfl ?_
  have f1 := zf hS0 ha (k := 5) rfl
  refine g13_5 hx hG ha kf_RX12_137 rfl dX12_fine_1 ?_
  refine j_iconst hx dX12_fine_4 ?_
  refine j_icmp_ne hx 12 dX12_fine_5 rfl (by omega) ⟨by decide, by decide⟩ (fun h2 => ?_) (fun h2 => ?_)
  · skip
    refine j_iconst hx dX12_fine_12 ?_
    exact j_zret hx hq rfl (by decide) (by decide) dX12_fine_13 (by omega) ⟨0, rfl, rfl, rfl, (by omega)⟩
  · skip
    refine j_iconst hx dX12_fine_8 ?_
    refine j_goto hx 13 dX12_fine_9 rfl ?_
    exact j_zret hx hq rfl (by decide) (by decide) dX12_fine_13 (by omega) ⟨1, rfl, rfl, rfl, (by omega)⟩

set_option maxHeartbeats 4000000 in
set_option maxRecDepth 20000 in
theorem c_X12_here {E : zE} {l : Launch} (hst : l.stackTraces = false) (a : Nat) : Con E l yX12_here cX12_here 1 (some .int) { frames := 0, cells := 0, slots := 0, locals := 0 } (fun G s vs => vs = [.ref a] ∧ zGK G ∧ zSK G s ∧ (gT G a = 13)) (fun G s _ => pI (fun r G2 s2 => G2 = G ∧ s2 = s ∧ ((-2147483648) ≤ r ∧ r ≤ 2147483647))) := by
  refine Con.mk hst (by decide) (fun G s vs h => by rw [h.1]; exact Nat.le_of_ble_eq_true rfl) ?_
  rintro X G s0 vs ⟨rfl, hG, hS0, ha⟩ rfl hx hq
  show JJ X E 1 G s0 0 0 [(0, .ref a)] 0 []
  refine j_aload_n hx 0 dX12_here_0 rfl ?_
  have f1 := zf hS0 ha (k := 4) rfl
  refine g13_4 hx hG ha kf_RX12_143 rfl dX12_here_1 ?_
  refine j_aload_n hx 0 dX12_here_4 rfl ?_
  have f2 := zf hS0 ha (k := 3) rfl
  refine g13_3 hx hG ha kf_RX12_146 rfl dX12_here_5 ?_
  refine j_icmp_ge hx 38 dX12_here_8 rfl (by omega) (by omega) (fun h3 => ?_) (fun h3 => absurd h3 (by omega))
  refine j_aload_n hx 0 dX12_here_38 rfl ?_
  refine g13_4 hx hG ha kf_RX12_143 rfl dX12_here_39 ?_
  refine j_aload_n hx 0 dX12_here_42 rfl ?_
  refine g13_3 hx hG ha kf_RX12_146 rfl dX12_here_43 ?_
  refine j_icmp_ge hx 61 dX12_here_46 rfl (by omega) (by omega) (fun h4 => ?_) (fun h4 => absurd h4 (by omega))
  refine j_iconst hx dX12_here_61 ?_
  exact j_iret hx hq rfl (by decide) (by decide) dX12_here_62 ⟨0, rfl, rfl, rfl, (by omega)⟩

theorem lk_RX12_149 : LkV RX12 149 RX12 yX12_here cX12_here 1 (some .int) 0 := ⟨km_RX12_149, ki_yX12_here, ks_RX12_yX12_here, kn_RX12, kc_yX12_here, rfl, by decide +kernel, by decide +kernel, by decide +kernel⟩
set_option maxHeartbeats 4000000 in
set_option maxRecDepth 20000 in
theorem c_X12_isMore {E : zE} {l : Launch} (hst : l.stackTraces = false) (a : Nat) : Con E l yX12_isMore cX12_isMore 1 (some .boolean) { frames := 1, cells := 0, slots := 0, locals := 20 } (fun G s vs => vs = [.ref a] ∧ zGK G ∧ zSK G s ∧ (gT G a = 13)) (fun G s _ => pI (fun r G2 s2 => G2 = G ∧ s2 = s ∧ (0 ≤ r ∧ r ≤ 1))) := by
  refine Con.mk hst (by decide) (fun G s vs h => by rw [h.1]; exact Nat.le_of_ble_eq_true rfl) ?_
  rintro X G s0 vs ⟨rfl, hG, hS0, ha⟩ rfl hx hq
  show JJ X E 1 G s0 0 0 [(0, .ref a)] 0 []
  refine j_aload_n hx 0 dX12_isMore_0 rfl ?_
  refine j_callV hx hG (c_X12_here hst a) lk_RX12_149 ha (by decide) rfl rfl rfl rfl [] ⟨rfl, hG, hS0, ha⟩ rfl rfl ⟨by decide, by decide⟩ ⟨by decide, by decide⟩ (k2 := 0) (n2 := 0) rfl rfl (Nat.le_of_ble_eq_true rfl) dX12_isMore_1 (kIP (fun v1 q2 => ?_))
  refine j_pop hx dX12_isMore_4 rfl ?_
  refine j_aload_n hx 0 dX12_isMore_5 rfl ?_
  have f3 := zf hS0 ha (k := 4) rfl
  refine g13_4 hx hG ha kf_RX12_143 rfl dX12_isMore_6 ?_
  refine j_aload_n hx 0 dX12_isMore_9 rfl ?_
  have f4 := zf hS0 ha (k := 3) rfl
  refine g13_3 hx hG ha kf_RX12_146 rfl dX12_isMore_10 ?_
  refine j_icmp_ge hx 20 dX12_isMore_13 rfl (by omega) (by omega) (fun h5 => ?_) (fun h5 => absurd h5 (by omega))
  refine j_iconst hx dX12_isMore_20 ?_
  exact j_zret hx hq rfl (by decide) (by decide) dX12_isMore_21 (by omega) ⟨0, rfl, rfl, rfl, (by omega)⟩

set_option maxHeartbeats 4000000 in
set_option maxRecDepth 20000 in
theorem c_X12_word {E : zE} {l : Launch} (hst : l.stackTraces = false) (a : Nat) : Con E l yX12_word cX12_word 4 (some .int) { frames := 1, cells := 0, slots := 0, locals := 20 } (fun G s vs => vs = [.ref a] ∧ zGK G ∧ zSK G s ∧ (gT G a = 13)) (fun G s _ => pI (fun r G2 s2 => G2 = G ∧ s2 = s ∧ ((-2147483648) ≤ r ∧ r ≤ 2147483647))) := by
  refine Con.mk hst (by decide) (fun G s vs h => by rw [h.1]; exact Nat.le_of_ble_eq_true rfl) ?_
  rintro X G s0 vs ⟨rfl, hG, hS0, ha⟩ rfl hx hq
  show JJ X E 4 G s0 0 0 [(0, .ref a)] 0 []
  refine j_aload_n hx 0 dX12_word_0 rfl ?_
  refine j_callV hx hG (c_X12_here hst a) lk_RX12_149 ha (by decide) rfl rfl rfl rfl [] ⟨rfl, hG, hS0, ha⟩ rfl rfl ⟨by decide, by decide⟩ ⟨by decide, by decide⟩ (k2 := 0) (n2 := 0) rfl rfl (Nat.le_of_ble_eq_true rfl) dX12_word_1 (kIP (fun v1 q2 => ?_))
  refine j_pop hx dX12_word_4 rfl ?_
  refine j_iconst hx dX12_word_5 ?_
  refine j_istore_n hx [(1, .int (zI 0)), (0, .ref a)] dX12_word_6 (by decide) rfl ?_
  refine j_iconst hx dX12_word_7 ?_
  refine j_istore_n hx [(2, .int (zI 0)), (1, .int (zI 0)), (0, .ref a)] dX12_word_8 (by decide) rfl ?_
  refine j_aload_n hx 2 dX12_word_9 rfl ?_
  have f3 := zf hS0 ha (k := 4) rfl
  refine g13_4 hx hG ha kf_RX12_143 rfl dX12_word_10 ?_
  refine j_istore_n hx [(3, .int (zI ((s0 a 4)))), (2, .int (zI 0)), (1, .int (zI 0)), (0, .ref a)] dX12_word_13 (by decide) rfl ?_
  refine j_iload_n hx 0 dX12_word_14 rfl ?_
  refine j_aload_n hx 3 dX12_word_15 rfl ?_
  have f4 := zf hS0 ha (k := 3) rfl
  refine g13_3 hx hG ha kf_RX12_146 rfl dX12_word_16 ?_
  refine j_icmp_ge hx 67 dX12_word_19 rfl (by omega) (by omega) (fun h5 => ?_) (fun h5 => absurd h5 (by omega))
  refine j_iload_n hx 1 dX12_word_67 rfl ?_
  refine j_bipush hx dX12_word_68 rfl ?_
  refine j_icmp_le hx 77 dX12_word_70 rfl ⟨by decide, by decide⟩ ⟨by decide, by decide⟩ (fun h6 => ?_) (fun h6 => absurd h6 (by omega))
  refine j_iload_n hx 2 dX12_word_77 rfl ?_
  exact j_iret hx hq rfl (by decide) (by decide) dX12_word_78 ⟨0, rfl, rfl, rfl, (by omega)⟩

set_option maxHeartbeats 4000000 in
set_option maxRecDepth 20000 in
theorem c_X12_within {E : zE} {l : Launch} (hst : l.stackTraces = false) (x0 : Int) (x1 : Int) (x2 : Int) : Con E l yX12_within cX12_within 3 (some .boolean) { frames := 0, cells := 0, slots := 0, locals := 0 } (fun G s vs => vs = [.int (zI x0), .int (zI x1), .int (zI x2)] ∧ zGK G ∧ zSK G s ∧ ((-2147483648) ≤ x0 ∧ x0 ≤ 2147483647) ∧ ((-2147483648) ≤ x1 ∧ x1 ≤ 2147483647) ∧ ((-2147483648) ≤ x2 ∧ x2 ≤ 2147483647)) (fun G s _ => pI (fun r G2 s2 => G2 = G ∧ s2 = s ∧ (0 ≤ r ∧ r ≤ 1))) := by
  refine Con.mk hst (by decide) (fun G s vs h => by rw [h.1]; exact Nat.le_of_ble_eq_true rfl) ?_
  rintro X G s0 vs ⟨rfl, hG, hS0, hx0, hx1, hx2⟩ rfl hx hq
  show JJ X E 3 G s0 0 0 [(0, .int (zI x0)), (1, .int (zI x1)), (2, .int (zI x2))] 0 []
  refine j_iload_n hx 0 dX12_within_0 rfl ?_
  refine j_iload_n hx 1 dX12_within_1 rfl ?_
  refine j_icmp_lt hx 14 dX12_within_2 rfl (by omega) (by omega) (fun h1 => ?_) (fun h1 => ?_)
  · skip
    refine j_iconst hx dX12_within_14 ?_
    exact j_zret hx hq rfl (by decide) (by decide) dX12_within_15 (by omega) ⟨0, rfl, rfl, rfl, (by omega)⟩
  · skip
    refine j_iload_n hx 0 dX12_within_5 rfl ?_
    refine j_iload_n hx 2 dX12_within_6 rfl ?_
    refine j_icmp_gt hx 14 dX12_within_7 rfl (by omega) (by omega) (fun h2 => ?_) (fun h2 => ?_)
    · skip
      refine j_iconst hx dX12_within_14 ?_
      exact j_zret hx hq rfl (by decide) (by decide) dX12_within_15 (by omega) ⟨0, rfl, rfl, rfl, (by omega)⟩
    · skip
      refine j_iconst hx dX12_within_10 ?_
      refine j_goto hx 15 dX12_within_11 rfl ?_
      exact j_zret hx hq rfl (by decide) (by decide) dX12_within_15 (by omega) ⟨1, rfl, rfl, rfl, (by omega)⟩

theorem lk_RX12_166 : LkV RX12 166 RX12 yX12_fine cX12_fine 1 (some .boolean) 0 := ⟨km_RX12_166, ki_yX12_fine, ks_RX12_yX12_fine, kn_RX12, kc_yX12_fine, rfl, by decide +kernel, by decide +kernel, by decide +kernel⟩
set_option maxHeartbeats 4000000 in
set_option maxRecDepth 20000 in
theorem c_X12_opensOne {E : zE} {l : Launch} (hst : l.stackTraces = false) (a : Nat) (x1 : Int) : Con E l yX12_opensOne cX12_opensOne 2 none { frames := 1, cells := 0, slots := 0, locals := 20 } (fun G s vs => vs = [.ref a, .int (zI x1)] ∧ zGK G ∧ zSK G s ∧ (gT G a = 13) ∧ ((-2147483648) ≤ x1 ∧ x1 ≤ 2147483647)) (fun G s _ => pV (fun G2 s2 => G2 = G ∧ zSK G s2 ∧ zFr [13] G s s2 ∧ True)) := by
  refine Con.mk hst (by decide) (fun G s vs h => by rw [h.1]; exact Nat.le_of_ble_eq_true rfl) ?_
  rintro X G s0 vs ⟨rfl, hG, hS0, ha, hx1⟩ rfl hx hq
  show JJ X E 2 G s0 0 0 [(0, .ref a), (1, .int (zI x1))] 0 []
  refine j_aload_n hx 0 dX12_opensOne_0 rfl ?_
  refine j_callV hx hG (c_X12_fine hst a) lk_RX12_166 ha (by decide) rfl rfl rfl rfl [] ⟨rfl, hG, hS0, ha⟩ rfl rfl ⟨by decide, by decide⟩ ⟨by decide, by decide⟩ (k2 := 0) (n2 := 0) rfl rfl (Nat.le_of_ble_eq_true rfl) dX12_opensOne_1 (kIP (fun v1 q2 => ?_))
  have c25_1 : JJ X E 2 G s0 0 0 [(0, .ref a), (1, .int (zI x1))] 25 [] := by
    refine j_aload_n hx 0 dX12_opensOne_25 rfl ?_
    refine j_callV hx hG (c_X12_fine hst a) lk_RX12_166 ha (by decide) rfl rfl rfl rfl [] ⟨rfl, hG, hS0, ha⟩ rfl rfl ⟨by decide, by decide⟩ ⟨by decide, by decide⟩ (k2 := 0) (n2 := 0) rfl rfl (Nat.le_of_ble_eq_true rfl) dX12_opensOne_26 (kIP (fun v3 q4 => ?_))
    refine j_if_eq hx 42 dX12_opensOne_29 rfl (by omega) (fun h5 => ?_) (fun h5 => ?_)
    · skip
      refine j_aload_n hx 0 dX12_opensOne_42 rfl ?_
      refine j_dup hx dX12_opensOne_43 rfl ?_
      have f6 := zf hS0 ha (k := 7) rfl
      refine g13_7 hx hG ha kf_RX12_177 rfl dX12_opensOne_44 ?_
      refine j_iconst hx dX12_opensOne_47 ?_
      refine j_iadd hx (r := (s0 a 7) + 1) dX12_opensOne_48 (by omega) ?_
      refine p13_7 hx hG ha kf_RX12_177 dX12_opensOne_49 ?_
      obtain ⟨s2, e_s2⟩ : ∃ z, z = zU s0 a 7 ((s0 a 7) + 1) := ⟨_, rfl⟩
      rw [← e_s2]
      have hS_s2 : zSK G s2 := by rw [e_s2]; exact zSK_F hS0 ha rfl rfl rfl (by omega)
      exact j_vret hx hq rfl (by decide) (by decide) dX12_opensOne_52 ⟨rfl, rfl, hS_s2, (zFr_u zFr_rf e_s2 ha (by decide)), trivial⟩
    · skip
      refine j_aload_n hx 0 dX12_opensOne_32 rfl ?_
      refine j_dup hx dX12_opensOne_33 rfl ?_
      have f7 := zf hS0 ha (k := 4) rfl
      refine g13_4 hx hG ha kf_RX12_143 rfl dX12_opensOne_34 ?_
      refine j_iload_n hx 1 dX12_opensOne_37 rfl ?_
      refine j_iadd hx (r := (s0 a 4) + x1) dX12_opensOne_38 (by omega) ?_
      refine p13_4 hx hG ha kf_RX12_143 dX12_opensOne_39 ?_
      obtain ⟨s3, e_s3⟩ : ∃ z, z = zU s0 a 4 ((s0 a 4) + x1) := ⟨_, rfl⟩
      rw [← e_s3]
      have hS_s3 : zSK G s3 := by rw [e_s3]; exact zSK_F hS0 ha rfl rfl rfl (by omega)
      refine j_aload_n hx 0 dX12_opensOne_42 rfl ?_
      refine j_dup hx dX12_opensOne_43 rfl ?_
      have f8 := zf hS0 ha (k := 7) rfl
      refine g13_7 hx hG ha kf_RX12_177 (v := (s0 a 7)) (by rw [e_s3, zU_at (Or.inr (by decide))]) dX12_opensOne_44 ?_
      refine j_iconst hx dX12_opensOne_47 ?_
      refine j_iadd hx (r := (s0 a 7) + 1) dX12_opensOne_48 (by omega) ?_
      refine p13_7 hx hG ha kf_RX12_177 dX12_opensOne_49 ?_
      obtain ⟨s4, e_s4⟩ : ∃ z, z = zU s3 a 7 ((s0 a 7) + 1) := ⟨_, rfl⟩
      rw [← e_s4]
      have hS_s4 : zSK G s4 := by rw [e_s4]; exact zSK_F hS_s3 ha rfl rfl rfl (by omega)
      exact j_vret hx hq rfl (by decide) (by decide) dX12_opensOne_52 ⟨rfl, rfl, hS_s4, (zFr_u (zFr_u zFr_rf e_s3 ha (by decide)) e_s4 ha (by decide)), trivial⟩
  refine j_if_eq hx 25 dX12_opensOne_4 rfl (by omega) (fun h9 => ?_) (fun h9 => ?_)
  · skip
    exact j_sub [0, 1] [(0, .ref a), (1, .int (zI x1))] rfl (c25_1  )
  · skip
    refine j_aload_n hx 0 dX12_opensOne_7 rfl ?_
    have f10 := zf hS0 ha (k := 7) rfl
    refine g13_7 hx hG ha kf_RX12_177 rfl dX12_opensOne_8 ?_
    refine j_bipush hx dX12_opensOne_11 rfl ?_
    refine j_icmp_ne hx 25 dX12_opensOne_13 rfl (by omega) ⟨by decide, by decide⟩ (fun h11 => ?_) (fun h11 => absurd h11 (by omega))
    exact j_sub [0, 1] [(0, .ref a), (1, .int (zI x1))] rfl (c25_1  )

set_option maxHeartbeats 4000000 in
set_option maxRecDepth 20000 in
theorem c_X12_isDigit {E : zE} {l : Launch} (hst : l.stackTraces = false) (x0 : Int) : Con E l yX12_isDigit cX12_isDigit 1 (some .boolean) { frames := 0, cells := 0, slots := 0, locals := 0 } (fun G s vs => vs = [.int (zI x0)] ∧ zGK G ∧ zSK G s ∧ ((-2147483648) ≤ x0 ∧ x0 ≤ 2147483647)) (fun G s _ => pI (fun r G2 s2 => G2 = G ∧ s2 = s ∧ (0 ≤ r ∧ r ≤ 1))) := by
  refine Con.mk hst (by decide) (fun G s vs h => by rw [h.1]; exact Nat.le_of_ble_eq_true rfl) ?_
  rintro X G s0 vs ⟨rfl, hG, hS0, hx0⟩ rfl hx hq
  show JJ X E 1 G s0 0 0 [(0, .int (zI x0))] 0 []
  refine j_iload_n hx 0 dX12_isDigit_0 rfl ?_
  refine j_bipush hx dX12_isDigit_1 rfl ?_
  refine j_icmp_lt hx 16 dX12_isDigit_3 rfl (by omega) ⟨by decide, by decide⟩ (fun h1 => ?_) (fun h1 => ?_)
  · skip
    refine j_iconst hx dX12_isDigit_16 ?_
    exact j_zret hx hq rfl (by decide) (by decide) dX12_isDigit_17 (by omega) ⟨0, rfl, rfl, rfl, (by omega)⟩
  · skip
    refine j_iload_n hx 0 dX12_isDigit_6 rfl ?_
    refine j_bipush hx dX12_isDigit_7 rfl ?_
    refine j_icmp_gt hx 16 dX12_isDigit_9 rfl (by omega) ⟨by decide, by decide⟩ (fun h2 => ?_) (fun h2 => ?_)
    · skip
      refine j_iconst hx dX12_isDigit_16 ?_
      exact j_zret hx hq rfl (by decide) (by decide) dX12_isDigit_17 (by omega) ⟨0, rfl, rfl, rfl, (by omega)⟩
    · skip
      refine j_iconst hx dX12_isDigit_12 ?_
      refine j_goto hx 17 dX12_isDigit_13 rfl ?_
      exact j_zret hx hq rfl (by decide) (by decide) dX12_isDigit_17 (by omega) ⟨1, rfl, rfl, rfl, (by omega)⟩

set_option maxHeartbeats 4000000 in
set_option maxRecDepth 20000 in
theorem c_X12_wrong {E : zE} {l : Launch} (hst : l.stackTraces = false) (a : Nat) (x1 : Int) (x2 : Int) : Con E l yX12_wrong cX12_wrong 3 none { frames := 0, cells := 0, slots := 0, locals := 0 } (fun G s vs => vs = [.ref a, .int (zI x1), .int (zI x2)] ∧ zGK G ∧ zSK G s ∧ (gT G a = 13) ∧ ((-2147483648) ≤ x1 ∧ x1 ≤ 2147483647) ∧ ((-2147483648) ≤ x2 ∧ x2 ≤ 2147483647)) (fun G s _ => pV (fun G2 s2 => G2 = G ∧ zSK G s2 ∧ zFr [13] G s s2 ∧ True)) := by
  refine Con.mk hst (by decide) (fun G s vs h => by rw [h.1]; exact Nat.le_of_ble_eq_true rfl) ?_
  rintro X G s0 vs ⟨rfl, hG, hS0, ha, hx1, hx2⟩ rfl hx hq
  show JJ X E 3 G s0 0 0 [(0, .ref a), (1, .int (zI x1)), (2, .int (zI x2))] 0 []
  refine j_aload_n hx 0 dX12_wrong_0 rfl ?_
  have f1 := zf hS0 ha (k := 5) rfl
  refine g13_5 hx hG ha kf_RX12_137 rfl dX12_wrong_1 ?_
  refine j_iconst hx dX12_wrong_4 ?_
  refine j_icmp_eq hx 9 dX12_wrong_5 rfl (by omega) ⟨by decide, by decide⟩ (fun h2 => ?_) (fun h2 => ?_)
  · skip
    refine j_aload_n hx 0 dX12_wrong_9 rfl ?_
    refine j_iload_n hx 2 dX12_wrong_10 rfl ?_
    refine p13_5 hx hG ha kf_RX12_137 dX12_wrong_11 ?_
    obtain ⟨s1, e_s1⟩ : ∃ z, z = zU s0 a 5 x2 := ⟨_, rfl⟩
    rw [← e_s1]
    have hS_s1 : zSK G s1 := by rw [e_s1]; exact zSK_F hS0 ha rfl rfl rfl (by omega)
    refine j_aload_n hx 0 dX12_wrong_14 rfl ?_
    refine j_iload_n hx 1 dX12_wrong_15 rfl ?_
    refine p13_6 hx hG ha kf_RX12_140 dX12_wrong_16 ?_
    obtain ⟨s2, e_s2⟩ : ∃ z, z = zU s1 a 6 x1 := ⟨_, rfl⟩
    rw [← e_s2]
    have hS_s2 : zSK G s2 := by rw [e_s2]; exact zSK_F hS_s1 ha rfl rfl rfl (by omega)
    exact j_vret hx hq rfl (by decide) (by decide) dX12_wrong_19 ⟨rfl, rfl, hS_s2, (zFr_u (zFr_u zFr_rf e_s1 ha (by decide)) e_s2 ha (by decide)), trivial⟩
  · skip
    exact j_vret hx hq rfl (by decide) (by decide) dX12_wrong_8 ⟨rfl, rfl, hS0, zFr_rf, trivial⟩

theorem lk_RX12_170 : LkS RX12 170 yX12_isDigit cX12_isDigit 1 (some .boolean) 1 := ⟨km_RX12_170, kst_yX12_isDigit, kn_RX12, kc_yX12_isDigit, by decide +kernel, by decide +kernel, by decide +kernel⟩
theorem lk_RX12_173 : LkV RX12 173 RX12 yX12_wrong cX12_wrong 3 none 2 := ⟨km_RX12_173, ki_yX12_wrong, ks_RX12_yX12_wrong, kn_RX12, kc_yX12_wrong, rfl, by decide +kernel, by decide +kernel, by decide +kernel⟩
set_option maxHeartbeats 4000000 in
set_option maxRecDepth 20000 in
theorem c_X12_readNumber {E : zE} {l : Launch} (hst : l.stackTraces = false) (a : Nat) (x1 : Int) (x2 : Int) : Con E l yX12_readNumber cX12_readNumber 6 (some .int) { frames := 1, cells := 0, slots := 0, locals := 22 } (fun G s vs => vs = [.ref a, .int (zI x1), .int (zI x2)] ∧ zGK G ∧ zSK G s ∧ (gT G a = 13) ∧ ((-2147483648) ≤ x1 ∧ x1 ≤ 2147483647) ∧ ((-2147483648) ≤ x2 ∧ x2 ≤ 2147483647)) (fun G s _ => pI (fun r G2 s2 => G2 = G ∧ zSK G s2 ∧ zFr [13] G s s2 ∧ ((-2147483648) ≤ r ∧ r ≤ 2147483647))) := by
  refine Con.mk hst (by decide) (fun G s vs h => by rw [h.1]; exact Nat.le_of_ble_eq_true rfl) ?_
  rintro X G s0 vs ⟨rfl, hG, hS0, ha, hx1, hx2⟩ rfl hx hq
  show JJ X E 6 G s0 0 0 [(0, .ref a), (1, .int (zI x1)), (2, .int (zI x2))] 0 []
  refine j_aload_n hx 0 dX12_readNumber_0 rfl ?_
  refine j_callV hx hG (c_X12_fine hst a) lk_RX12_166 ha (by decide) rfl rfl rfl rfl [] ⟨rfl, hG, hS0, ha⟩ rfl rfl ⟨by decide, by decide⟩ ⟨by decide, by decide⟩ (k2 := 0) (n2 := 0) rfl rfl (Nat.le_of_ble_eq_true rfl) dX12_readNumber_1 (kIP (fun v1 q2 => ?_))
  refine j_if_ne hx 9 dX12_readNumber_4 rfl (by omega) (fun h3 => ?_) (fun h3 => ?_)
  · skip
    refine j_aload_n hx 0 dX12_readNumber_9 rfl ?_
    refine j_callV hx hG (c_X12_here hst a) lk_RX12_149 ha (by decide) rfl rfl rfl rfl [] ⟨rfl, hG, hS0, ha⟩ rfl rfl ⟨by decide, by decide⟩ ⟨by decide, by decide⟩ (k2 := 0) (n2 := 0) rfl rfl (Nat.le_of_ble_eq_true rfl) dX12_readNumber_10 (kIP (fun v4 q5 => ?_))
    refine j_istore_n hx [(3, .int (zI v4)), (0, .ref a), (1, .int (zI x1)), (2, .int (zI x2))] dX12_readNumber_13 (by decide) rfl ?_
    refine j_aload_n hx 1 dX12_readNumber_14 rfl ?_
    have f6 := zf hS0 ha (k := 4) rfl
    refine g13_4 hx hG ha kf_RX12_143 rfl dX12_readNumber_15 ?_
    refine j_istore hx [(4, .int (zI ((s0 a 4)))), (3, .int (zI v4)), (0, .ref a), (1, .int (zI x1)), (2, .int (zI x2))] dX12_readNumber_18 (by decide) rfl ?_
    refine j_iconst hx dX12_readNumber_20 ?_
    refine j_istore hx [(5, .int (zI 0)), (4, .int (zI ((s0 a 4)))), (3, .int (zI v4)), (0, .ref a), (1, .int (zI x1)), (2, .int (zI x2))] dX12_readNumber_21 (by decide) rfl ?_
    refine j_iload_n hx 2 dX12_readNumber_23 rfl ?_
    refine j_callS hx (c_X12_isDigit hst v4) lk_RX12_170 [.int (zI v4)] ⟨rfl, hG, hS0, (by omega)⟩ rfl rfl ⟨by decide, by decide⟩ ⟨by decide, by decide⟩ (k2 := 0) (n2 := 0) rfl rfl (Nat.le_of_ble_eq_true rfl) dX12_readNumber_24 (kIP (fun v7 q8 => ?_))
    refine j_if_ne hx 41 dX12_readNumber_27 rfl (by omega) (fun h9 => ?_) (fun h9 => ?_)
    · skip
      refine j_aload_n hx 3 dX12_readNumber_41 rfl ?_
      refine g13_4 hx hG ha kf_RX12_143 rfl dX12_readNumber_42 ?_
      refine j_aload_n hx 3 dX12_readNumber_45 rfl ?_
      have f10 := zf hS0 ha (k := 3) rfl
      refine g13_3 hx hG ha kf_RX12_146 rfl dX12_readNumber_46 ?_
      refine j_icmp_ge hx 114 dX12_readNumber_49 rfl (by omega) (by omega) (fun h11 => ?_) (fun h11 => absurd h11 (by omega))
      refine j_iload hx 0 dX12_readNumber_114 rfl ?_
      refine j_iload_n hx 4 dX12_readNumber_116 rfl ?_
      refine j_icmp_lt hx 126 dX12_readNumber_117 rfl ⟨by decide, by decide⟩ (by omega) (fun h12 => ?_) (fun h12 => ?_)
      · skip
        refine j_aload_n hx 3 dX12_readNumber_126 rfl ?_
        refine j_iconst hx dX12_readNumber_127 ?_
        refine j_iload hx 1 dX12_readNumber_128 rfl ?_
        refine j_callV hx hG (c_X12_wrong hst a 2 ((s0 a 4))) lk_RX12_173 ha (by decide) rfl rfl rfl rfl [.int (zI 2), .int (zI ((s0 a 4)))] ⟨rfl, hG, hS0, ha, (by omega), (by omega)⟩ rfl rfl ⟨by decide, by decide⟩ ⟨by decide, by decide⟩ (k2 := 0) (n2 := 0) rfl rfl (Nat.le_of_ble_eq_true rfl) dX12_readNumber_130 (kVM (fun s1 hS_s1 hF_s1 q14 => ?_))
        refine j_iconst hx dX12_readNumber_133 ?_
        exact j_iret hx hq rfl (by decide) (by decide) dX12_readNumber_134 ⟨0, rfl, rfl, hS_s1, (zFr_t zFr_rf hF_s1 (by decide)), (by omega)⟩
      · skip
        refine j_iload hx 0 dX12_readNumber_120 rfl ?_
        refine j_iload_n hx 5 dX12_readNumber_122 rfl ?_
        refine j_icmp_le hx 135 dX12_readNumber_123 rfl ⟨by decide, by decide⟩ (by omega) (fun h15 => ?_) (fun h15 => ?_)
        · skip
          refine j_iload hx 0 dX12_readNumber_135 rfl ?_
          exact j_iret hx hq rfl (by decide) (by decide) dX12_readNumber_137 ⟨0, rfl, rfl, hS0, zFr_rf, (by omega)⟩
        · skip
          refine j_aload_n hx 3 dX12_readNumber_126 rfl ?_
          refine j_iconst hx dX12_readNumber_127 ?_
          refine j_iload hx 1 dX12_readNumber_128 rfl ?_
          refine j_callV hx hG (c_X12_wrong hst a 2 ((s0 a 4))) lk_RX12_173 ha (by decide) rfl rfl rfl rfl [.int (zI 2), .int (zI ((s0 a 4)))] ⟨rfl, hG, hS0, ha, (by omega), (by omega)⟩ rfl rfl ⟨by decide, by decide⟩ ⟨by decide, by decide⟩ (k2 := 0) (n2 := 0) rfl rfl (Nat.le_of_ble_eq_true rfl) dX12_readNumber_130 (kVM (fun s2 hS_s2 hF_s2 q17 => ?_))
          refine j_iconst hx dX12_readNumber_133 ?_
          exact j_iret hx hq rfl (by decide) (by decide) dX12_readNumber_134 ⟨0, rfl, rfl, hS_s2, (zFr_t zFr_rf hF_s2 (by decide)), (by omega)⟩
    · skip
      refine j_aload_n hx 3 dX12_readNumber_30 rfl ?_
      refine j_iconst hx dX12_readNumber_31 ?_
      refine j_aload_n hx 3 dX12_readNumber_32 rfl ?_
      refine g13_4 hx hG ha kf_RX12_143 rfl dX12_readNumber_33 ?_
      refine j_callV hx hG (c_X12_wrong hst a 1 ((s0 a 4))) lk_RX12_173 ha (by decide) rfl rfl rfl rfl [.int (zI 1), .int (zI ((s0 a 4)))] ⟨rfl, hG, hS0, ha, (by omega), (by omega)⟩ rfl rfl ⟨by decide, by decide⟩ ⟨by decide, by decide⟩ (k2 := 0) (n2 := 0) rfl rfl (Nat.le_of_ble_eq_true rfl) dX12_readNumber_36 (kVM (fun s3 hS_s3 hF_s3 q19 => ?_))
      refine j_iconst hx dX12_readNumber_39 ?_
      exact j_iret hx hq rfl (by decide) (by decide) dX12_readNumber_40 ⟨0, rfl, rfl, hS_s3, (zFr_t zFr_rf hF_s3 (by decide)), (by omega)⟩
  · skip
    refine j_iconst hx dX12_readNumber_7 ?_
    exact j_iret hx hq rfl (by decide) (by decide) dX12_readNumber_8 ⟨0, rfl, rfl, hS0, zFr_rf, (by omega)⟩

set_option maxHeartbeats 4000000 in
set_option maxRecDepth 20000 in
theorem c_X12_sign {E : zE} {l : Launch} (hst : l.stackTraces = false) (a : Nat) (x1 : Int) : Con E l yX12_sign cX12_sign 2 none { frames := 1, cells := 0, slots := 0, locals := 22 } (fun G s vs => vs = [.ref a, .int (zI x1)] ∧ zGK G ∧ zSK G s ∧ (gT G a = 13) ∧ ((-2147483648) ≤ x1 ∧ x1 ≤ 2147483647)) (fun G s _ => pV (fun G2 s2 => G2 = G ∧ zSK G s2 ∧ zFr [13] G s s2 ∧ True)) := by
  refine Con.mk hst (by decide) (fun G s vs h => by rw [h.1]; exact Nat.le_of_ble_eq_true rfl) ?_
  rintro X G s0 vs ⟨rfl, hG, hS0, ha, hx1⟩ rfl hx hq
  show JJ X E 2 G s0 0 0 [(0, .ref a), (1, .int (zI x1))] 0 []
  refine j_aload_n hx 0 dX12_sign_0 rfl ?_
  refine j_callV hx hG (c_X12_fine hst a) lk_RX12_166 ha (by decide) rfl rfl rfl rfl [] ⟨rfl, hG, hS0, ha⟩ rfl rfl ⟨by decide, by decide⟩ ⟨by decide, by decide⟩ (k2 := 0) (n2 := 0) rfl rfl (Nat.le_of_ble_eq_true rfl) dX12_sign_1 (kIP (fun v1 q2 => ?_))
  have c24_1 : ∀ (s2 : zS), (zSK G s2) → (zFr [13] G s0 s2) → JJ X E 2 G s2 0 0 [(0, .ref a)] 24 [] := by
    intro s2 hS_s2 hF_s2
    refine j_aload_n hx 0 dX12_sign_24 rfl ?_
    refine j_callV hx hG (c_X12_fine hst a) lk_RX12_166 ha (by decide) rfl rfl rfl rfl [] ⟨rfl, hG, hS_s2, ha⟩ rfl rfl ⟨by decide, by decide⟩ ⟨by decide, by decide⟩ (k2 := 0) (n2 := 0) rfl rfl (Nat.le_of_ble_eq_true rfl) dX12_sign_25 (kIP (fun v3 q4 => ?_))
    refine j_if_eq hx 41 dX12_sign_28 rfl (by omega) (fun h5 => ?_) (fun h5 => ?_)
    · skip
      exact j_vret hx hq rfl (by decide) (by decide) dX12_sign_41 ⟨rfl, rfl, hS_s2, (zFr_t zFr_rf hF_s2 (by decide)), trivial⟩
    · skip
      refine j_aload_n hx 0 dX12_sign_31 rfl ?_
      refine j_dup hx dX12_sign_32 rfl ?_
      have f6 := zf hS_s2 ha (k := 4) rfl
      refine g13_4 hx hG ha kf_RX12_143 rfl dX12_sign_33 ?_
      refine j_iconst hx dX12_sign_36 ?_
      refine j_iadd hx (r := (s2 a 4) + 1) dX12_sign_37 (by omega) ?_
      refine p13_4 hx hG ha kf_RX12_143 dX12_sign_38 ?_
      obtain ⟨s5, e_s5⟩ : ∃ z, z = zU s2 a 4 ((s2 a 4) + 1) := ⟨_, rfl⟩
      rw [← e_s5]
      have hS_s5 : zSK G s5 := by rw [e_s5]; exact zSK_F hS_s2 ha rfl rfl rfl (by omega)
      exact j_vret hx hq rfl (by decide) (by decide) dX12_sign_41 ⟨rfl, rfl, hS_s5, (zFr_u (zFr_t zFr_rf hF_s2 (by decide)) e_s5 ha (by decide)), trivial⟩
  refine j_if_eq hx 24 dX12_sign_4 rfl (by omega) (fun h7 => ?_) (fun h7 => ?_)
  · skip
    exact j_sub [0] [(0, .ref a)] rfl (c24_1 s0 hS0 zFr_rf)
  · skip
    refine j_aload_n hx 0 dX12_sign_7 rfl ?_
    refine j_callV hx hG (c_X12_here hst a) lk_RX12_149 ha (by decide) rfl rfl rfl rfl [] ⟨rfl, hG, hS0, ha⟩ rfl rfl ⟨by decide, by decide⟩ ⟨by decide, by decide⟩ (k2 := 0) (n2 := 0) rfl rfl (Nat.le_of_ble_eq_true rfl) dX12_sign_8 (kIP (fun v8 q9 => ?_))
    refine j_iload_n hx 1 dX12_sign_11 rfl ?_
    refine j_icmp_eq hx 24 dX12_sign_12 rfl (by omega) (by omega) (fun h10 => ?_) (fun h10 => ?_)
    · skip
      exact j_sub [0] [(0, .ref a)] rfl (c24_1 s0 hS0 zFr_rf)
    · skip
      refine j_aload_n hx 0 dX12_sign_15 rfl ?_
      refine j_iconst hx dX12_sign_16 ?_
      refine j_aload_n hx 0 dX12_sign_17 rfl ?_
      have f11 := zf hS0 ha (k := 4) rfl
      refine g13_4 hx hG ha kf_RX12_143 rfl dX12_sign_18 ?_
      refine j_callV hx hG (c_X12_wrong hst a 1 ((s0 a 4))) lk_RX12_173 ha (by decide) rfl rfl rfl rfl [.int (zI 1), .int (zI ((s0 a 4)))] ⟨rfl, hG, hS0, ha, (by omega), (by omega)⟩ rfl rfl ⟨by decide, by decide⟩ ⟨by decide, by decide⟩ (k2 := 0) (n2 := 0) rfl rfl (Nat.le_of_ble_eq_true rfl) dX12_sign_21 (kVM (fun s6 hS_s6 hF_s6 q13 => ?_))
      exact j_sub [0] [(0, .ref a)] rfl (c24_1 s6 hS_s6 (zFr_t zFr_rf hF_s6 (by decide)))

set_option maxHeartbeats 4000000 in
set_option maxRecDepth 20000 in
theorem c_X12_result {E : zE} {l : Launch} (hst : l.stackTraces = false) (a : Nat) (x1 : Int) : Con E l yX12_result cX12_result 2 (some .int) { frames := 1, cells := 0, slots := 0, locals := 20 } (fun G s vs => vs = [.ref a, .int (zI x1)] ∧ zGK G ∧ zSK G s ∧ (gT G a = 13) ∧ ((-2147483648) ≤ x1 ∧ x1 ≤ 2147483647)) (fun G s _ => pI (fun r G2 s2 => G2 = G ∧ zSK G s2 ∧ zFr [13] G s s2 ∧ ((-2147483648) ≤ r ∧ r ≤ 2147483647))) := by
  refine Con.mk hst (by decide) (fun G s vs h => by rw [h.1]; exact Nat.le_of_ble_eq_true rfl) ?_
  rintro X G s0 vs ⟨rfl, hG, hS0, ha, hx1⟩ rfl hx hq
  show JJ X E 2 G s0 0 0 [(0, .ref a), (1, .int (zI x1))] 0 []
  refine j_aload_n hx 0 dX12_result_0 rfl ?_
  refine j_aload_n hx 0 dX12_result_1 rfl ?_
  have f1 := zf hS0 ha (k := 5) rfl
  refine g13_5 hx hG ha kf_RX12_137 rfl dX12_result_2 ?_
  refine p13_8 hx hG ha kf_RX12_17 dX12_result_5 ?_
  obtain ⟨s1, e_s1⟩ : ∃ z, z = zU s0 a 8 ((s0 a 5)) := ⟨_, rfl⟩
  rw [← e_s1]
  have hS_s1 : zSK G s1 := by rw [e_s1]; exact zSK_F hS0 ha rfl rfl rfl (by omega)
  refine j_aload_n hx 0 dX12_result_8 rfl ?_
  refine j_callV hx hG (c_X12_fine hst a) lk_RX12_166 ha (by decide) rfl rfl rfl rfl [] ⟨rfl, hG, hS_s1, ha⟩ rfl rfl ⟨by decide, by decide⟩ ⟨by decide, by decide⟩ (k2 := 0) (n2 := 0) rfl rfl (Nat.le_of_ble_eq_true rfl) dX12_result_9 (kIP (fun v2 q3 => ?_))
  refine j_if_eq hx 19 dX12_result_12 rfl (by omega) (fun h4 => ?_) (fun h4 => ?_)
  · skip
    refine j_aload_n hx 0 dX12_result_19 rfl ?_
    have f5 := zf hS0 ha (k := 6) rfl
    refine g13_6 hx hG ha kf_RX12_140 (v := (s0 a 6)) (by rw [e_s1, zU_at (Or.inr (by decide))]) dX12_result_20 ?_
    refine j_bipush hx dX12_result_23 rfl ?_
    refine j_isub hx (r := (s0 a 6) - 10) dX12_result_25 (by omega) ?_
    exact j_iret hx hq rfl (by decide) (by decide) dX12_result_26 ⟨(s0 a 6) - 10, rfl, rfl, hS_s1, (zFr_u zFr_rf e_s1 ha (by decide)), (by omega)⟩
  · skip
    refine j_iload_n hx 1 dX12_result_15 rfl ?_
    refine j_goto hx 26 dX12_result_16 rfl ?_
    exact j_iret hx hq rfl (by decide) (by decide) dX12_result_26 ⟨x1, rfl, rfl, hS_s1, (zFr_u zFr_rf e_s1 ha (by decide)), (by omega)⟩

theorem lk_RX12_240 : LkV RX12 240 RX12 yX12_may cX12_may 4 (some .boolean) 3 := ⟨km_RX12_240, ki_yX12_may, ks_RX12_yX12_may, kn_RX12, kc_yX12_may, rfl, by decide +kernel, by decide +kernel, by decide +kernel⟩
theorem lk_RX12_244 : LkV RX12 244 RX12 yX12_begins cX12_begins 2 none 1 := ⟨km_RX12_244, ki_yX12_begins, ks_RX12_yX12_begins, kn_RX12, kc_yX12_begins, rfl, by decide +kernel, by decide +kernel, by decide +kernel⟩
theorem lk_RX12_265 : LkV RX12 265 RX12 yX12_result cX12_result 2 (some .int) 1 := ⟨km_RX12_265, ki_yX12_result, ks_RX12_yX12_result, kn_RX12, kc_yX12_result, rfl, by decide +kernel, by decide +kernel, by decide +kernel⟩
theorem lk_RX12_247 : LkV RX12 247 RX12 yX12_isMore cX12_isMore 1 (some .boolean) 0 := ⟨km_RX12_247, ki_yX12_isMore, ks_RX12_yX12_isMore, kn_RX12, kc_yX12_isMore, rfl, by decide +kernel, by decide +kernel, by decide +kernel⟩
theorem lk_RX12_219 : LkV RX12 219 RX12 yX12_readNumber cX12_readNumber 6 (some .int) 2 := ⟨km_RX12_219, ki_yX12_readNumber, ks_RX12_yX12_readNumber, kn_RX12, kc_yX12_readNumber, rfl, by decide +kernel, by decide +kernel, by decide +kernel⟩
theorem lk_RX12_262 : LkV RX12 262 RX12 yX12_sign cX12_sign 2 none 1 := ⟨km_RX12_262, ki_yX12_sign, ks_RX12_yX12_sign, kn_RX12, kc_yX12_sign, rfl, by decide +kernel, by decide +kernel, by decide +kernel⟩
set_option maxHeartbeats 4000000 in
set_option maxRecDepth 20000 in
theorem c_X12_book {E : zE} {l : Launch} (hst : l.stackTraces = false) (a : Nat) (x1 : Int) : Con E l yX12_book cX12_book 6 (some .int) { frames := 2, cells := 0, slots := 0, locals := 47 } (fun G s vs => vs = [.ref a, .int (zI x1)] ∧ zGK G ∧ zSK G s ∧ (gT G a = 13) ∧ ((-2147483648) ≤ x1 ∧ x1 ≤ 2147483647) ∧ (zS0 G s)) (fun G s _ => pI (fun r G2 s2 => G2 = G ∧ zSK G s2 ∧ zFr [13, 71, 96, 97] G s s2 ∧ ((-2147483648) ≤ r ∧ r ≤ 2147483647))) := by
  refine Con.mk hst (by decide) (fun G s vs h => by rw [h.1]; exact Nat.le_of_ble_eq_true rfl) ?_
  rintro X G s0 vs ⟨rfl, hG, hS0, ha, hx1, hF0⟩ rfl hx hq
  show JJ X E 6 G s0 0 0 [(0, .ref a), (1, .int (zI x1))] 0 []
  refine j_aload_n hx 0 dX12_book_0 rfl ?_
  refine j_iconst hx dX12_book_1 ?_
  refine p13_0 hx hG ha kf_RX12_3 dX12_book_2 ?_
  obtain ⟨s1, e_s1⟩ : ∃ z, z = zU s0 a 0 0 := ⟨_, rfl⟩
  rw [← e_s1]
  have hS_s1 : zSK G s1 := by rw [e_s1]; exact zSK_F hS0 ha rfl rfl rfl (by omega)
  refine j_aload_n hx 0 dX12_book_5 rfl ?_
  refine j_iload_n hx 1 dX12_book_6 rfl ?_
  refine j_if_lt hx 28 dX12_book_7 rfl (by omega) (fun h1 => ?_) (fun h1 => ?_)
  · skip
    refine j_iconst hx dX12_book_28 ?_
    refine j_iconst hx dX12_book_29 ?_
    refine j_iconst hx dX12_book_30 ?_
    refine j_callV hx hG (c_X12_may hst a 0 1 1) lk_RX12_240 ha (by decide) rfl rfl rfl rfl [.int (zI 0), .int (zI 1), .int (zI 1)] ⟨rfl, hG, hS_s1, ha, (by omega), (by omega), (by omega)⟩ rfl rfl ⟨by decide, by decide⟩ ⟨by decide, by decide⟩ (k2 := 0) (n2 := 0) rfl rfl (Nat.le_of_ble_eq_true rfl) dX12_book_31 (kIM (fun v2 s2 hS_s2 hF_s2 q3 => ?_))
    refine j_if_ne hx 39 dX12_book_34 rfl (by omega) (fun h4 => ?_) (fun h4 => ?_)
    · skip
      refine j_aload_n hx 0 dX12_book_39 rfl ?_
      refine j_iload_n hx 1 dX12_book_40 rfl ?_
      refine j_callV hx hG (c_X12_begins hst a x1) lk_RX12_244 ha (by decide) rfl rfl rfl rfl [.int (zI x1)] ⟨rfl, hG, hS_s2, ha, (by omega)⟩ rfl rfl ⟨by decide, by decide⟩ ⟨by decide, by decide⟩ (k2 := 0) (n2 := 0) rfl rfl (Nat.le_of_ble_eq_true rfl) dX12_book_41 (kVM (fun s3 hS_s3 hF_s3 q6 => ?_))
      refine j_iconst hx dX12_book_44 ?_
      refine j_istore_n hx [(2, .int (zI 0)), (0, .ref a), (1, .int (zI x1))] dX12_book_45 (by decide) rfl ?_
      have c46_4 : ∀ (m_c46_4 : Nat) (v7 : Int) (s5 : zS), 2147483648 - v7 < m_c46_4 → ((-2147483648) ≤ v7 ∧ v7 ≤ 2147483647) → (zSK G s5) → (zFr [13, 96] G s3 s5) → JJ X E 6 G s5 0 0 [(0, .ref a), (2, .int (zI v7))] 46 [] := by
        intro m_c46_4
        induction m_c46_4 with
        | zero => intro v7 s5 hm_c46_4 f6 hS_s5 hF_s5; exfalso; omega
        | succ m_c46_4 ih_c46_4 => 
          intro v7 s5 hm_c46_4 f6 hS_s5 hF_s5
          refine j_aload_n hx 0 dX12_book_46 rfl ?_
          refine j_callV hx hG (c_X12_fine hst a) lk_RX12_166 ha (by decide) rfl rfl rfl rfl [] ⟨rfl, hG, hS_s5, ha⟩ rfl rfl ⟨by decide, by decide⟩ ⟨by decide, by decide⟩ (k2 := 0) (n2 := 0) rfl rfl (Nat.le_of_ble_eq_true rfl) dX12_book_47 (kIP (fun v8 q9 => ?_))
          refine j_if_eq hx 151 dX12_book_50 rfl (by omega) (fun h10 => ?_) (fun h10 => ?_)
          · skip
            refine j_aload_n hx 0 dX12_book_151 rfl ?_
            refine j_iload_n hx 1 dX12_book_152 rfl ?_
            refine j_callV hx hG (c_X12_result hst a v7) lk_RX12_265 ha (by decide) rfl rfl rfl rfl [.int (zI v7)] ⟨rfl, hG, hS_s5, ha, (by omega)⟩ rfl rfl ⟨by decide, by decide⟩ ⟨by decide, by decide⟩ (k2 := 0) (n2 := 0) rfl rfl (Nat.le_of_ble_eq_true rfl) dX12_book_153 (kIM (fun v11 s9 hS_s9 hF_s9 q12 => ?_))
            refine j_istore_n hx [(3, .int (zI v11)), (0, .ref a), (2, .int (zI v7))] dX12_book_156 (by decide) rfl ?_
            refine j_aload_n hx 1 dX12_book_157 rfl ?_
            have f13 := zf hS_s9 ha (k := 5) rfl
            refine g13_5 hx hG ha kf_RX12_137 rfl dX12_book_158 ?_
            refine j_iconst hx dX12_book_161 ?_
            refine j_icmp_eq hx 167 dX12_book_162 rfl (by omega) ⟨by decide, by decide⟩ (fun h14 => ?_) (fun h14 => ?_)
            · skip
              refine j_aload_n hx 1 dX12_book_167 rfl ?_
              refine j_iload_n hx 2 dX12_book_168 rfl ?_
              refine p13_41 hx hG ha kf_RX12_198 dX12_book_169 ?_
              obtain ⟨s10, e_s10⟩ : ∃ z, z = zU s9 a 41 v7 := ⟨_, rfl⟩
              rw [← e_s10]
              have hS_s10 : zSK G s10 := by rw [e_s10]; exact zSK_F hS_s9 ha rfl rfl rfl (by omega)
              refine j_iconst hx dX12_book_172 ?_
              refine j_istore hx [(4, .int (zI 0)), (3, .int (zI v11)), (0, .ref a), (2, .int (zI v7))] dX12_book_173 (by decide) rfl ?_
              have c175_11 : ∀ (m_c175_11 : Nat) (v15 : Int) (s12 : zS), 2147483648 - v15 < m_c175_11 → (0 ≤ v15 ∧ v15 ≤ 2147483647) → (zSK G s12) → (zFr [97] G s10 s12) → JJ X E 6 G s12 0 0 [(0, .ref a), (2, .int (zI v7)), (3, .int (zI v11)), (4, .int (zI v15))] 175 [] := by
                intro m_c175_11
                induction m_c175_11 with
                | zero => intro v15 s12 hm_c175_11 f13 hS_s12 hF_s12; exfalso; omega
                | succ m_c175_11 ih_c175_11 => 
                  intro v15 s12 hm_c175_11 f13 hS_s12 hF_s12
                  refine j_iload hx 3 dX12_book_175 rfl ?_
                  refine j_iconst hx dX12_book_177 ?_
                  refine j_iload_n hx 1 dX12_book_178 rfl ?_
                  refine j_imul hx (r := 2 * v7) dX12_book_179 rfl ?_
                  refine j_norm (fun v16 f17 f18 f19 => ?_)
                  refine j_icmp_ge hx 203 dX12_book_180 rfl (by omega) (by omega) (fun h20 => ?_) (fun h20 => ?_)
                  · skip
                    refine j_iload_n hx 2 dX12_book_203 rfl ?_
                    exact j_iret hx hq rfl (by decide) (by decide) dX12_book_204 ⟨v11, rfl, rfl, hS_s12, (zFr_t (zFr_u (zFr_t (zFr_t (zFr_t (zFr_t (zFr_u zFr_rf e_s1 ha (by decide)) hF_s2 (by decide)) hF_s3 (by decide)) hF_s5 (by decide)) hF_s9 (by decide)) e_s10 ha (by decide)) hF_s12 (by decide)), (by omega)⟩
                  · skip
                    refine j_aload_n hx 0 dX12_book_183 rfl ?_
                    refine g13_40 hx hG ha kf_RX12_92 dX12_book_184 ?_
                    refine j_iload hx 3 dX12_book_187 rfl ?_
                    refine j_aload_n hx 0 dX12_book_189 rfl ?_
                    refine g13_39 hx hG ha kf_RX12_89 dX12_book_190 ?_
                    refine j_iload hx 3 dX12_book_193 rfl ?_
                    have f21 := zaI (j := (v15).toNat) hS_s5 (zr (k := 39) (t2 := 96) hG ha rfl) rfl (zlen hG (zr (k := 39) (t2 := 96) hG ha rfl) (n := 24) rfl rfl) (show 0 ≤ v15 by omega) (by omega) rfl
                    refine j_iald hx hG (zr (k := 39) (t2 := 96) hG ha rfl) (by decide) rfl (zlen hG (zr (k := 39) (t2 := 96) hG ha rfl) (n := 24) rfl rfl) (by omega) (by omega) (j := (v15).toNat) rfl (v := (s5 (gP G a 39) (v15).toNat)) (by rw [(zFr_g hF_s12 (zr (k := 39) (t2 := 96) hG ha rfl) (by decide)), e_s10, zU_at (Or.inl (zne ha (zr (k := 39) (t2 := 96) hG ha rfl) (by decide))), (zFr_g hF_s9 (zr (k := 39) (t2 := 96) hG ha rfl) (by decide))]) dX12_book_195 ?_
                    refine j_iast hx hG (zr (k := 40) (t2 := 97) hG ha rfl) (by decide) rfl (zlen hG (zr (k := 40) (t2 := 97) hG ha rfl) (n := 24) rfl rfl) (by omega) (by omega) (j := (v15).toNat) rfl dX12_book_196 ?_
                    obtain ⟨s16, e_s16⟩ : ∃ z, z = zU s12 (gP G a 40) (v15).toNat ((s5 (gP G a 39) (v15).toNat)) := ⟨_, rfl⟩
                    rw [← e_s16]
                    have hS_s16 : zSK G s16 := by rw [e_s16]; exact zSK_A hS_s12 (zr (k := 40) (t2 := 97) hG ha rfl) rfl rfl rfl (by omega)
                    refine j_iinc hx 3 [(4, .int (zI (v15 + 1))), (0, .ref a), (2, .int (zI v7)), (3, .int (zI v11))] dX12_book_197 rfl (by omega) (by decide) rfl ?_
                    refine j_goto hx 175 dX12_book_200 rfl ?_
                    exact j_sub [1, 2, 3, 0] [(0, .ref a), (2, .int (zI v7)), (3, .int (zI v11)), (4, .int (zI (v15 + 1)))] rfl (ih_c175_11 (v15 + 1) s16 (by omega) (by omega) hS_s16 (zFr_u (zFr_t zFr_rf hF_s12 (by decide)) e_s16 (zr (k := 40) (t2 := 97) hG ha rfl) (by decide)))
              exact j_sub [2, 3, 1, 0] [(0, .ref a), (2, .int (zI v7)), (3, .int (zI v11)), (4, .int (zI 0))] rfl (c175_11 (2147483648 * 4) 0 s10 (by omega) (by omega) hS_s10 zFr_rf)
            · skip
              refine j_iload_n hx 0 dX12_book_165 rfl ?_
              exact j_iret hx hq rfl (by decide) (by decide) dX12_book_166 ⟨v11, rfl, rfl, hS_s9, (zFr_t (zFr_t (zFr_t (zFr_t (zFr_u zFr_rf e_s1 ha (by decide)) hF_s2 (by decide)) hF_s3 (by decide)) hF_s5 (by decide)) hF_s9 (by decide)), (by omega)⟩
          · skip
            refine j_aload_n hx 0 dX12_book_53 rfl ?_
            refine j_callV hx hG (c_X12_isMore hst a) lk_RX12_247 ha (by decide) rfl rfl rfl rfl [] ⟨rfl, hG, hS_s5, ha⟩ rfl rfl ⟨by decide, by decide⟩ ⟨by decide, by decide⟩ (k2 := 0) (n2 := 0) rfl rfl (Nat.le_of_ble_eq_true rfl) dX12_book_54 (kIP (fun v22 q23 => ?_))
            refine j_if_eq hx 151 dX12_book_57 rfl (by omega) (fun h24 => ?_) (fun h24 => ?_)
            · skip
              refine j_aload_n hx 0 dX12_book_151 rfl ?_
              refine j_iload_n hx 1 dX12_book_152 rfl ?_
              refine j_callV hx hG (c_X12_result hst a v7) lk_RX12_265 ha (by decide) rfl rfl rfl rfl [.int (zI v7)] ⟨rfl, hG, hS_s5, ha, (by omega)⟩ rfl rfl ⟨by decide, by decide⟩ ⟨by decide, by decide⟩ (k2 := 0) (n2 := 0) rfl rfl (Nat.le_of_ble_eq_true rfl) dX12_book_153 (kIM (fun v25 s17 hS_s17 hF_s17 q26 => ?_))
              refine j_istore_n hx [(3, .int (zI v25)), (0, .ref a), (2, .int (zI v7))] dX12_book_156 (by decide) rfl ?_
              refine j_aload_n hx 1 dX12_book_157 rfl ?_
              have f27 := zf hS_s17 ha (k := 5) rfl
              refine g13_5 hx hG ha kf_RX12_137 rfl dX12_book_158 ?_
              refine j_iconst hx dX12_book_161 ?_
              refine j_icmp_eq hx 167 dX12_book_162 rfl (by omega) ⟨by decide, by decide⟩ (fun h28 => ?_) (fun h28 => ?_)
              · skip
                refine j_aload_n hx 1 dX12_book_167 rfl ?_
                refine j_iload_n hx 2 dX12_book_168 rfl ?_
                refine p13_41 hx hG ha kf_RX12_198 dX12_book_169 ?_
                obtain ⟨s18, e_s18⟩ : ∃ z, z = zU s17 a 41 v7 := ⟨_, rfl⟩
                rw [← e_s18]
                have hS_s18 : zSK G s18 := by rw [e_s18]; exact zSK_F hS_s17 ha rfl rfl rfl (by omega)
                refine j_iconst hx dX12_book_172 ?_
                refine j_istore hx [(4, .int (zI 0)), (3, .int (zI v25)), (0, .ref a), (2, .int (zI v7))] dX12_book_173 (by decide) rfl ?_
                have c175_19 : ∀ (m_c175_19 : Nat) (v29 : Int) (s20 : zS), 2147483648 - v29 < m_c175_19 → (0 ≤ v29 ∧ v29 ≤ 2147483647) → (zSK G s20) → (zFr [97] G s18 s20) → JJ X E 6 G s20 0 0 [(0, .ref a), (2, .int (zI v7)), (3, .int (zI v25)), (4, .int (zI v29))] 175 [] := by
                  intro m_c175_19
                  induction m_c175_19 with
                  | zero => intro v29 s20 hm_c175_19 f21 hS_s20 hF_s20; exfalso; omega
                  | succ m_c175_19 ih_c175_19 => 
                    intro v29 s20 hm_c175_19 f21 hS_s20 hF_s20
                    refine j_iload hx 3 dX12_book_175 rfl ?_
                    refine j_iconst hx dX12_book_177 ?_
                    refine j_iload_n hx 1 dX12_book_178 rfl ?_
                    refine j_imul hx (r := 2 * v7) dX12_book_179 rfl ?_
                    refine j_norm (fun v30 f31 f32 f33 => ?_)
                    refine j_icmp_ge hx 203 dX12_book_180 rfl (by omega) (by omega) (fun h34 => ?_) (fun h34 => ?_)
                    · skip
                      refine j_iload_n hx 2 dX12_book_203 rfl ?_
                      exact j_iret hx hq rfl (by decide) (by decide) dX12_book_204 ⟨v25, rfl, rfl, hS_s20, (zFr_t (zFr_u (zFr_t (zFr_t (zFr_t (zFr_t (zFr_u zFr_rf e_s1 ha (by decide)) hF_s2 (by decide)) hF_s3 (by decide)) hF_s5 (by decide)) hF_s17 (by decide)) e_s18 ha (by decide)) hF_s20 (by decide)), (by omega)⟩
                    · skip
                      refine j_aload_n hx 0 dX12_book_183 rfl ?_
                      refine g13_40 hx hG ha kf_RX12_92 dX12_book_184 ?_
                      refine j_iload hx 3 dX12_book_187 rfl ?_
                      refine j_aload_n hx 0 dX12_book_189 rfl ?_
                      refine g13_39 hx hG ha kf_RX12_89 dX12_book_190 ?_
                      refine j_iload hx 3 dX12_book_193 rfl ?_
                      have f35 := zaI (j := (v29).toNat) hS_s5 (zr (k := 39) (t2 := 96) hG ha rfl) rfl (zlen hG (zr (k := 39) (t2 := 96) hG ha rfl) (n := 24) rfl rfl) (show 0 ≤ v29 by omega) (by omega) rfl
                      refine j_iald hx hG (zr (k := 39) (t2 := 96) hG ha rfl) (by decide) rfl (zlen hG (zr (k := 39) (t2 := 96) hG ha rfl) (n := 24) rfl rfl) (by omega) (by omega) (j := (v29).toNat) rfl (v := (s5 (gP G a 39) (v29).toNat)) (by rw [(zFr_g hF_s20 (zr (k := 39) (t2 := 96) hG ha rfl) (by decide)), e_s18, zU_at (Or.inl (zne ha (zr (k := 39) (t2 := 96) hG ha rfl) (by decide))), (zFr_g hF_s17 (zr (k := 39) (t2 := 96) hG ha rfl) (by decide))]) dX12_book_195 ?_
                      refine j_iast hx hG (zr (k := 40) (t2 := 97) hG ha rfl) (by decide) rfl (zlen hG (zr (k := 40) (t2 := 97) hG ha rfl) (n := 24) rfl rfl) (by omega) (by omega) (j := (v29).toNat) rfl dX12_book_196 ?_
                      obtain ⟨s24, e_s24⟩ : ∃ z, z = zU s20 (gP G a 40) (v29).toNat ((s5 (gP G a 39) (v29).toNat)) := ⟨_, rfl⟩
                      rw [← e_s24]
                      have hS_s24 : zSK G s24 := by rw [e_s24]; exact zSK_A hS_s20 (zr (k := 40) (t2 := 97) hG ha rfl) rfl rfl rfl (by omega)
                      refine j_iinc hx 3 [(4, .int (zI (v29 + 1))), (0, .ref a), (2, .int (zI v7)), (3, .int (zI v25))] dX12_book_197 rfl (by omega) (by decide) rfl ?_
                      refine j_goto hx 175 dX12_book_200 rfl ?_
                      exact j_sub [1, 2, 3, 0] [(0, .ref a), (2, .int (zI v7)), (3, .int (zI v25)), (4, .int (zI (v29 + 1)))] rfl (ih_c175_19 (v29 + 1) s24 (by omega) (by omega) hS_s24 (zFr_u (zFr_t zFr_rf hF_s20 (by decide)) e_s24 (zr (k := 40) (t2 := 97) hG ha rfl) (by decide)))
                exact j_sub [2, 3, 1, 0] [(0, .ref a), (2, .int (zI v7)), (3, .int (zI v25)), (4, .int (zI 0))] rfl (c175_19 (2147483648 * 4) 0 s18 (by omega) (by omega) hS_s18 zFr_rf)
              · skip
                refine j_iload_n hx 0 dX12_book_165 rfl ?_
                exact j_iret hx hq rfl (by decide) (by decide) dX12_book_166 ⟨v25, rfl, rfl, hS_s17, (zFr_t (zFr_t (zFr_t (zFr_t (zFr_u zFr_rf e_s1 ha (by decide)) hF_s2 (by decide)) hF_s3 (by decide)) hF_s5 (by decide)) hF_s17 (by decide)), (by omega)⟩
            · skip
              refine j_aload_n hx 0 dX12_book_60 rfl ?_
              have f36 := zf hS_s5 ha (k := 4) rfl
              refine g13_4 hx hG ha kf_RX12_143 rfl dX12_book_61 ?_
              refine j_istore_n hx [(3, .int (zI ((s5 a 4)))), (0, .ref a), (2, .int (zI v7))] dX12_book_64 (by decide) rfl ?_
              refine j_aload_n hx 1 dX12_book_65 rfl ?_
              refine j_iconst hx dX12_book_66 ?_
              refine j_sipush hx dX12_book_67 rfl ?_
              refine j_callV hx hG (c_X12_readNumber hst a 0 9999) lk_RX12_219 ha (by decide) rfl rfl rfl rfl [.int (zI 0), .int (zI 9999)] ⟨rfl, hG, hS_s5, ha, (by omega), (by omega)⟩ rfl rfl ⟨by decide, by decide⟩ ⟨by decide, by decide⟩ (k2 := 0) (n2 := 0) rfl rfl (Nat.le_of_ble_eq_true rfl) dX12_book_70 (kIM (fun v37 s25 hS_s25 hF_s25 q38 => ?_))
              refine j_istore hx [(4, .int (zI v37)), (3, .int (zI ((s5 a 4)))), (0, .ref a), (2, .int (zI v7))] dX12_book_73 (by decide) rfl ?_
              refine j_aload_n hx 2 dX12_book_75 rfl ?_
              refine j_callV hx hG (c_X12_fine hst a) lk_RX12_166 ha (by decide) rfl rfl rfl rfl [] ⟨rfl, hG, hS_s25, ha⟩ rfl rfl ⟨by decide, by decide⟩ ⟨by decide, by decide⟩ (k2 := 0) (n2 := 0) rfl rfl (Nat.le_of_ble_eq_true rfl) dX12_book_76 (kIP (fun v39 q40 => ?_))
              refine j_if_eq hx 94 dX12_book_79 rfl (by omega) (fun h41 => ?_) (fun h41 => ?_)
              · skip
                refine j_aload_n hx 2 dX12_book_94 rfl ?_
                refine j_iconst hx dX12_book_95 ?_
                refine j_aload_n hx 2 dX12_book_96 rfl ?_
                have f42 := zf hS_s25 ha (k := 24) rfl
                refine g13_24 hx hG ha kf_RX12_189 rfl dX12_book_97 ?_
                refine j_iconst hx dX12_book_100 ?_
                refine j_isub hx (r := (s25 a 24) - 1) dX12_book_101 (by omega) ?_
                refine j_callV hx hG (c_X12_readNumber hst a 0 ((s25 a 24) - 1)) lk_RX12_219 ha (by decide) rfl rfl rfl rfl [.int (zI 0), .int (zI ((s25 a 24) - 1))] ⟨rfl, hG, hS_s25, ha, (by omega), (by omega)⟩ rfl rfl ⟨by decide, by decide⟩ ⟨by decide, by decide⟩ (k2 := 0) (n2 := 0) rfl rfl (Nat.le_of_ble_eq_true rfl) dX12_book_102 (kIM (fun v43 s26 hS_s26 hF_s26 q44 => ?_))
                refine j_istore hx [(5, .int (zI v43)), (4, .int (zI v37)), (3, .int (zI ((s5 a 4)))), (0, .ref a), (2, .int (zI v7))] dX12_book_105 (by decide) rfl ?_
                refine j_aload_n hx 3 dX12_book_107 rfl ?_
                refine j_bipush hx dX12_book_108 rfl ?_
                refine j_callV hx hG (c_X12_sign hst a 59) lk_RX12_262 ha (by decide) rfl rfl rfl rfl [.int (zI 59)] ⟨rfl, hG, hS_s26, ha, (by omega)⟩ rfl rfl ⟨by decide, by decide⟩ ⟨by decide, by decide⟩ (k2 := 0) (n2 := 0) rfl rfl (Nat.le_of_ble_eq_true rfl) dX12_book_110 (kVM (fun s27 hS_s27 hF_s27 q46 => ?_))
                refine j_aload_n hx 3 dX12_book_113 rfl ?_
                refine j_callV hx hG (c_X12_fine hst a) lk_RX12_166 ha (by decide) rfl rfl rfl rfl [] ⟨rfl, hG, hS_s27, ha⟩ rfl rfl ⟨by decide, by decide⟩ ⟨by decide, by decide⟩ (k2 := 0) (n2 := 0) rfl rfl (Nat.le_of_ble_eq_true rfl) dX12_book_114 (kIP (fun v47 q48 => ?_))
                refine j_if_ne hx 123 dX12_book_117 rfl (by omega) (fun h49 => ?_) (fun h49 => ?_)
                · skip
                  refine j_aload_n hx 3 dX12_book_123 rfl ?_
                  refine g13_39 hx hG ha kf_RX12_89 dX12_book_124 ?_
                  refine j_iconst hx dX12_book_127 ?_
                  refine j_iload_n hx 4 dX12_book_128 rfl ?_
                  refine j_imul hx (r := 2 * v7) dX12_book_129 rfl ?_
                  refine j_norm (fun v50 f51 f52 f53 => ?_)
                  refine j_iload hx 1 dX12_book_130 rfl ?_
                  refine j_iast hx hG (zr (k := 39) (t2 := 96) hG ha rfl) (by decide) rfl (zlen hG (zr (k := 39) (t2 := 96) hG ha rfl) (n := 24) rfl rfl) (by omega) (by omega) (j := (v50).toNat) rfl dX12_book_132 ?_
                  obtain ⟨s28, e_s28⟩ : ∃ z, z = zU s27 (gP G a 39) (v50).toNat v37 := ⟨_, rfl⟩
                  rw [← e_s28]
                  have hS_s28 : zSK G s28 := by rw [e_s28]; exact zSK_A hS_s27 (zr (k := 39) (t2 := 96) hG ha rfl) rfl rfl rfl (by omega)
                  refine j_aload_n hx 3 dX12_book_133 rfl ?_
                  refine g13_39 hx hG ha kf_RX12_89 dX12_book_134 ?_
                  refine j_iconst hx dX12_book_137 ?_
                  refine j_iload_n hx 4 dX12_book_138 rfl ?_
                  refine j_imul hx (r := 2 * v7) dX12_book_139 rfl ?_
                  refine j_norm (fun v54 f55 f56 f57 => ?_)
                  refine j_iconst hx dX12_book_140 ?_
                  refine j_iadd hx (r := v54 + 1) dX12_book_141 rfl ?_
                  refine j_norm (fun v58 f59 f60 f61 => ?_)
                  refine j_iload hx 0 dX12_book_142 rfl ?_
                  refine j_iast hx hG (zr (k := 39) (t2 := 96) hG ha rfl) (by decide) rfl (zlen hG (zr (k := 39) (t2 := 96) hG ha rfl) (n := 24) rfl rfl) (by omega) (by omega) (j := (v58).toNat) rfl dX12_book_144 ?_
                  obtain ⟨s29, e_s29⟩ : ∃ z, z = zU s28 (gP G a 39) (v58).toNat v43 := ⟨_, rfl⟩
                  rw [← e_s29]
                  have hS_s29 : zSK G s29 := by rw [e_s29]; exact zSK_A hS_s28 (zr (k := 39) (t2 := 96) hG ha rfl) rfl rfl rfl (by omega)
                  refine j_iincN hx 4 (fun v62 => [(2, .int (zI v62)), (5, .int (zI v43)), (4, .int (zI v37)), (3, .int (zI ((s5 a 4)))), (0, .ref a)]) dX12_book_145 rfl (by decide) (fun _ => rfl) (fun v62 f63 f64 f65 => ?_)
                  refine j_goto hx 46 dX12_book_148 rfl ?_
                  exact j_sub [4, 0] [(0, .ref a), (2, .int (zI v62))] rfl (ih_c46_4 v62 s29 (by omega) (by omega) hS_s29 (zFr_u (zFr_u (zFr_t (zFr_t (zFr_t (zFr_t zFr_rf hF_s5 (by decide)) hF_s25 (by decide)) hF_s26 (by decide)) hF_s27 (by decide)) e_s28 (zr (k := 39) (t2 := 96) hG ha rfl) (by decide)) e_s29 (zr (k := 39) (t2 := 96) hG ha rfl) (by decide)))
                · skip
                  refine j_goto hx 151 dX12_book_120 rfl ?_
                  refine j_aload_n hx 3 dX12_book_151 rfl ?_
                  refine j_iload_n hx 4 dX12_book_152 rfl ?_
                  refine j_callV hx hG (c_X12_result hst a v7) lk_RX12_265 ha (by decide) rfl rfl rfl rfl [.int (zI v7)] ⟨rfl, hG, hS_s27, ha, (by omega)⟩ rfl rfl ⟨by decide, by decide⟩ ⟨by decide, by decide⟩ (k2 := 0) (n2 := 0) rfl rfl (Nat.le_of_ble_eq_true rfl) dX12_book_153 (kIM (fun v66 s30 hS_s30 hF_s30 q67 => ?_))
                  refine j_istore_n hx [(3, .int (zI v66)), (5, .int (zI v43)), (4, .int (zI v37)), (0, .ref a), (2, .int (zI v7))] dX12_book_156 (by decide) rfl ?_
                  refine j_aload_n hx 3 dX12_book_157 rfl ?_
                  have f68 := zf hS_s30 ha (k := 5) rfl
                  refine g13_5 hx hG ha kf_RX12_137 rfl dX12_book_158 ?_
                  refine j_iconst hx dX12_book_161 ?_
                  refine j_icmp_eq hx 167 dX12_book_162 rfl (by omega) ⟨by decide, by decide⟩ (fun h69 => ?_) (fun h69 => ?_)
                  · skip
                    refine j_aload_n hx 3 dX12_book_167 rfl ?_
                    refine j_iload_n hx 4 dX12_book_168 rfl ?_
                    refine p13_41 hx hG ha kf_RX12_198 dX12_book_169 ?_
                    obtain ⟨s31, e_s31⟩ : ∃ z, z = zU s30 a 41 v7 := ⟨_, rfl⟩
                    rw [← e_s31]
                    have hS_s31 : zSK G s31 := by rw [e_s31]; exact zSK_F hS_s30 ha rfl rfl rfl (by omega)
                    refine j_iconst hx dX12_book_172 ?_
                    refine j_istore hx [(4, .int (zI 0)), (3, .int (zI v66)), (5, .int (zI v43)), (0, .ref a), (2, .int (zI v7))] dX12_book_173 (by decide) rfl ?_
                    have c175_32 : ∀ (m_c175_32 : Nat) (v70 : Int) (s33 : zS), 2147483648 - v70 < m_c175_32 → (0 ≤ v70 ∧ v70 ≤ 2147483647) → (zSK G s33) → (zFr [97] G s31 s33) → JJ X E 6 G s33 0 0 [(0, .ref a), (2, .int (zI v7)), (3, .int (zI v66)), (4, .int (zI v70))] 175 [] := by
                      intro m_c175_32
                      induction m_c175_32 with
                      | zero => intro v70 s33 hm_c175_32 f34 hS_s33 hF_s33; exfalso; omega
                      | succ m_c175_32 ih_c175_32 => 
                        intro v70 s33 hm_c175_32 f34 hS_s33 hF_s33
                        refine j_iload hx 3 dX12_book_175 rfl ?_
                        refine j_iconst hx dX12_book_177 ?_
                        refine j_iload_n hx 1 dX12_book_178 rfl ?_
                        refine j_imul hx (r := 2 * v7) dX12_book_179 rfl ?_
                        refine j_norm (fun v71 f72 f73 f74 => ?_)
                        refine j_icmp_ge hx 203 dX12_book_180 rfl (by omega) (by omega) (fun h75 => ?_) (fun h75 => ?_)
                        · skip
                          refine j_iload_n hx 2 dX12_book_203 rfl ?_
                          exact j_iret hx hq rfl (by decide) (by decide) dX12_book_204 ⟨v66, rfl, rfl, hS_s33, (zFr_t (zFr_u (zFr_t (zFr_t (zFr_t (zFr_t (zFr_t (zFr_t (zFr_t (zFr_u zFr_rf e_s1 ha (by decide)) hF_s2 (by decide)) hF_s3 (by decide)) hF_s5 (by decide)) hF_s25 (by decide)) hF_s26 (by decide)) hF_s27 (by decide)) hF_s30 (by decide)) e_s31 ha (by decide)) hF_s33 (by decide)), (by omega)⟩
                        · skip
                          refine j_aload_n hx 0 dX12_book_183 rfl ?_
                          refine g13_40 hx hG ha kf_RX12_92 dX12_book_184 ?_
                          refine j_iload hx 3 dX12_book_187 rfl ?_
                          refine j_aload_n hx 0 dX12_book_189 rfl ?_
                          refine g13_39 hx hG ha kf_RX12_89 dX12_book_190 ?_
                          refine j_iload hx 3 dX12_book_193 rfl ?_
                          have f76 := zaI (j := (v70).toNat) hS_s5 (zr (k := 39) (t2 := 96) hG ha rfl) rfl (zlen hG (zr (k := 39) (t2 := 96) hG ha rfl) (n := 24) rfl rfl) (show 0 ≤ v70 by omega) (by omega) rfl
                          refine j_iald hx hG (zr (k := 39) (t2 := 96) hG ha rfl) (by decide) rfl (zlen hG (zr (k := 39) (t2 := 96) hG ha rfl) (n := 24) rfl rfl) (by omega) (by omega) (j := (v70).toNat) rfl (v := (s5 (gP G a 39) (v70).toNat)) (by rw [(zFr_g hF_s33 (zr (k := 39) (t2 := 96) hG ha rfl) (by decide)), e_s31, zU_at (Or.inl (zne ha (zr (k := 39) (t2 := 96) hG ha rfl) (by decide))), (zFr_g hF_s30 (zr (k := 39) (t2 := 96) hG ha rfl) (by decide)), (zFr_g hF_s27 (zr (k := 39) (t2 := 96) hG ha rfl) (by decide)), (zFr_g hF_s26 (zr (k := 39) (t2 := 96) hG ha rfl) (by decide)), (zFr_g hF_s25 (zr (k := 39) (t2 := 96) hG ha rfl) (by decide))]) dX12_book_195 ?_
                          refine j_iast hx hG (zr (k := 40) (t2 := 97) hG ha rfl) (by decide) rfl (zlen hG (zr (k := 40) (t2 := 97) hG ha rfl) (n := 24) rfl rfl) (by omega) (by omega) (j := (v70).toNat) rfl dX12_book_196 ?_
                          obtain ⟨s37, e_s37⟩ : ∃ z, z = zU s33 (gP G a 40) (v70).toNat ((s5 (gP G a 39) (v70).toNat)) := ⟨_, rfl⟩
                          rw [← e_s37]
                          have hS_s37 : zSK G s37 := by rw [e_s37]; exact zSK_A hS_s33 (zr (k := 40) (t2 := 97) hG ha rfl) rfl rfl rfl (by omega)
                          refine j_iinc hx 3 [(4, .int (zI (v70 + 1))), (0, .ref a), (2, .int (zI v7)), (3, .int (zI v66))] dX12_book_197 rfl (by omega) (by decide) rfl ?_
                          refine j_goto hx 175 dX12_book_200 rfl ?_
                          exact j_sub [1, 2, 3, 0] [(0, .ref a), (2, .int (zI v7)), (3, .int (zI v66)), (4, .int (zI (v70 + 1)))] rfl (ih_c175_32 (v70 + 1) s37 (by omega) (by omega) hS_s37 (zFr_u (zFr_t zFr_rf hF_s33 (by decide)) e_s37 (zr (k := 40) (t2 := 97) hG ha rfl) (by decide)))
                    exact j_sub [3, 4, 1, 0] [(0, .ref a), (2, .int (zI v7)), (3, .int (zI v66)), (4, .int (zI 0))] rfl (c175_32 (2147483648 * 4) 0 s31 (by omega) (by omega) hS_s31 zFr_rf)
                  · skip
                    refine j_iload_n hx 0 dX12_book_165 rfl ?_
                    exact j_iret hx hq rfl (by decide) (by decide) dX12_book_166 ⟨v66, rfl, rfl, hS_s30, (zFr_t (zFr_t (zFr_t (zFr_t (zFr_t (zFr_t (zFr_t (zFr_u zFr_rf e_s1 ha (by decide)) hF_s2 (by decide)) hF_s3 (by decide)) hF_s5 (by decide)) hF_s25 (by decide)) hF_s26 (by decide)) hF_s27 (by decide)) hF_s30 (by decide)), (by omega)⟩
              · skip
                refine j_iload_n hx 3 dX12_book_82 rfl ?_
                refine j_bipush hx dX12_book_83 rfl ?_
                refine j_icmp_ne hx 94 dX12_book_85 rfl (by omega) ⟨by decide, by decide⟩ (fun h77 => ?_) (fun h77 => ?_)
                · skip
                  refine j_aload_n hx 2 dX12_book_94 rfl ?_
                  refine j_iconst hx dX12_book_95 ?_
                  refine j_aload_n hx 2 dX12_book_96 rfl ?_
                  have f78 := zf hS_s25 ha (k := 24) rfl
                  refine g13_24 hx hG ha kf_RX12_189 rfl dX12_book_97 ?_
                  refine j_iconst hx dX12_book_100 ?_
                  refine j_isub hx (r := (s25 a 24) - 1) dX12_book_101 (by omega) ?_
                  refine j_callV hx hG (c_X12_readNumber hst a 0 ((s25 a 24) - 1)) lk_RX12_219 ha (by decide) rfl rfl rfl rfl [.int (zI 0), .int (zI ((s25 a 24) - 1))] ⟨rfl, hG, hS_s25, ha, (by omega), (by omega)⟩ rfl rfl ⟨by decide, by decide⟩ ⟨by decide, by decide⟩ (k2 := 0) (n2 := 0) rfl rfl (Nat.le_of_ble_eq_true rfl) dX12_book_102 (kIM (fun v79 s38 hS_s38 hF_s38 q80 => ?_))
                  refine j_istore hx [(5, .int (zI v79)), (4, .int (zI v37)), (3, .int (zI ((s5 a 4)))), (0, .ref a), (2, .int (zI v7))] dX12_book_105 (by decide) rfl ?_
                  refine j_aload_n hx 3 dX12_book_107 rfl ?_
                  refine j_bipush hx dX12_book_108 rfl ?_
                  refine j_callV hx hG (c_X12_sign hst a 59) lk_RX12_262 ha (by decide) rfl rfl rfl rfl [.int (zI 59)] ⟨rfl, hG, hS_s38, ha, (by omega)⟩ rfl rfl ⟨by decide, by decide⟩ ⟨by decide, by decide⟩ (k2 := 0) (n2 := 0) rfl rfl (Nat.le_of_ble_eq_true rfl) dX12_book_110 (kVM (fun s39 hS_s39 hF_s39 q82 => ?_))
                  refine j_aload_n hx 3 dX12_book_113 rfl ?_
                  refine j_callV hx hG (c_X12_fine hst a) lk_RX12_166 ha (by decide) rfl rfl rfl rfl [] ⟨rfl, hG, hS_s39, ha⟩ rfl rfl ⟨by decide, by decide⟩ ⟨by decide, by decide⟩ (k2 := 0) (n2 := 0) rfl rfl (Nat.le_of_ble_eq_true rfl) dX12_book_114 (kIP (fun v83 q84 => ?_))
                  refine j_if_ne hx 123 dX12_book_117 rfl (by omega) (fun h85 => ?_) (fun h85 => ?_)
                  · skip
                    refine j_aload_n hx 3 dX12_book_123 rfl ?_
                    refine g13_39 hx hG ha kf_RX12_89 dX12_book_124 ?_
                    refine j_iconst hx dX12_book_127 ?_
                    refine j_iload_n hx 4 dX12_book_128 rfl ?_
                    refine j_imul hx (r := 2 * v7) dX12_book_129 rfl ?_
                    refine j_norm (fun v86 f87 f88 f89 => ?_)
                    refine j_iload hx 1 dX12_book_130 rfl ?_
                    refine j_iast hx hG (zr (k := 39) (t2 := 96) hG ha rfl) (by decide) rfl (zlen hG (zr (k := 39) (t2 := 96) hG ha rfl) (n := 24) rfl rfl) (by omega) (by omega) (j := (v86).toNat) rfl dX12_book_132 ?_
                    obtain ⟨s40, e_s40⟩ : ∃ z, z = zU s39 (gP G a 39) (v86).toNat v37 := ⟨_, rfl⟩
                    rw [← e_s40]
                    have hS_s40 : zSK G s40 := by rw [e_s40]; exact zSK_A hS_s39 (zr (k := 39) (t2 := 96) hG ha rfl) rfl rfl rfl (by omega)
                    refine j_aload_n hx 3 dX12_book_133 rfl ?_
                    refine g13_39 hx hG ha kf_RX12_89 dX12_book_134 ?_
                    refine j_iconst hx dX12_book_137 ?_
                    refine j_iload_n hx 4 dX12_book_138 rfl ?_
                    refine j_imul hx (r := 2 * v7) dX12_book_139 rfl ?_
                    refine j_norm (fun v90 f91 f92 f93 => ?_)
                    refine j_iconst hx dX12_book_140 ?_
                    refine j_iadd hx (r := v90 + 1) dX12_book_141 rfl ?_
                    refine j_norm (fun v94 f95 f96 f97 => ?_)
                    refine j_iload hx 0 dX12_book_142 rfl ?_
                    refine j_iast hx hG (zr (k := 39) (t2 := 96) hG ha rfl) (by decide) rfl (zlen hG (zr (k := 39) (t2 := 96) hG ha rfl) (n := 24) rfl rfl) (by omega) (by omega) (j := (v94).toNat) rfl dX12_book_144 ?_
                    obtain ⟨s41, e_s41⟩ : ∃ z, z = zU s40 (gP G a 39) (v94).toNat v79 := ⟨_, rfl⟩
                    rw [← e_s41]
                    have hS_s41 : zSK G s41 := by rw [e_s41]; exact zSK_A hS_s40 (zr (k := 39) (t2 := 96) hG ha rfl) rfl rfl rfl (by omega)
                    refine j_iincN hx 4 (fun v98 => [(2, .int (zI v98)), (5, .int (zI v79)), (4, .int (zI v37)), (3, .int (zI ((s5 a 4)))), (0, .ref a)]) dX12_book_145 rfl (by decide) (fun _ => rfl) (fun v98 f99 f100 f101 => ?_)
                    refine j_goto hx 46 dX12_book_148 rfl ?_
                    exact j_sub [4, 0] [(0, .ref a), (2, .int (zI v98))] rfl (ih_c46_4 v98 s41 (by omega) (by omega) hS_s41 (zFr_u (zFr_u (zFr_t (zFr_t (zFr_t (zFr_t zFr_rf hF_s5 (by decide)) hF_s25 (by decide)) hF_s38 (by decide)) hF_s39 (by decide)) e_s40 (zr (k := 39) (t2 := 96) hG ha rfl) (by decide)) e_s41 (zr (k := 39) (t2 := 96) hG ha rfl) (by decide)))
                  · skip
                    refine j_goto hx 151 dX12_book_120 rfl ?_
                    refine j_aload_n hx 3 dX12_book_151 rfl ?_
                    refine j_iload_n hx 4 dX12_book_152 rfl ?_
                    refine j_callV hx hG (c_X12_result hst a v7) lk_RX12_265 ha (by decide) rfl rfl rfl rfl [.int (zI v7)] ⟨rfl, hG, hS_s39, ha, (by omega)⟩ rfl rfl ⟨by decide, by decide⟩ ⟨by decide, by decide⟩ (k2 := 0) (n2 := 0) rfl rfl (Nat.le_of_ble_eq_true rfl) dX12_book_153 (kIM (fun v102 s42 hS_s42 hF_s42 q103 => ?_))
                    refine j_istore_n hx [(3, .int (zI v102)), (5, .int (zI v79)), (4, .int (zI v37)), (0, .ref a), (2, .int (zI v7))] dX12_book_156 (by decide) rfl ?_
                    refine j_aload_n hx 3 dX12_book_157 rfl ?_
                    have f104 := zf hS_s42 ha (k := 5) rfl
                    refine g13_5 hx hG ha kf_RX12_137 rfl dX12_book_158 ?_
                    refine j_iconst hx dX12_book_161 ?_
                    refine j_icmp_eq hx 167 dX12_book_162 rfl (by omega) ⟨by decide, by decide⟩ (fun h105 => ?_) (fun h105 => ?_)
                    · skip
                      refine j_aload_n hx 3 dX12_book_167 rfl ?_
                      refine j_iload_n hx 4 dX12_book_168 rfl ?_
                      refine p13_41 hx hG ha kf_RX12_198 dX12_book_169 ?_
                      obtain ⟨s43, e_s43⟩ : ∃ z, z = zU s42 a 41 v7 := ⟨_, rfl⟩
                      rw [← e_s43]
                      have hS_s43 : zSK G s43 := by rw [e_s43]; exact zSK_F hS_s42 ha rfl rfl rfl (by omega)
                      refine j_iconst hx dX12_book_172 ?_
                      refine j_istore hx [(4, .int (zI 0)), (3, .int (zI v102)), (5, .int (zI v79)), (0, .ref a), (2, .int (zI v7))] dX12_book_173 (by decide) rfl ?_
                      have c175_44 : ∀ (m_c175_44 : Nat) (v106 : Int) (s45 : zS), 2147483648 - v106 < m_c175_44 → (0 ≤ v106 ∧ v106 ≤ 2147483647) → (zSK G s45) → (zFr [97] G s43 s45) → JJ X E 6 G s45 0 0 [(0, .ref a), (2, .int (zI v7)), (3, .int (zI v102)), (4, .int (zI v106))] 175 [] := by
                        intro m_c175_44
                        induction m_c175_44 with
                        | zero => intro v106 s45 hm_c175_44 f46 hS_s45 hF_s45; exfalso; omega
                        | succ m_c175_44 ih_c175_44 => 
                          intro v106 s45 hm_c175_44 f46 hS_s45 hF_s45
                          refine j_iload hx 3 dX12_book_175 rfl ?_
                          refine j_iconst hx dX12_book_177 ?_
                          refine j_iload_n hx 1 dX12_book_178 rfl ?_
                          refine j_imul hx (r := 2 * v7) dX12_book_179 rfl ?_
                          refine j_norm (fun v107 f108 f109 f110 => ?_)
                          refine j_icmp_ge hx 203 dX12_book_180 rfl (by omega) (by omega) (fun h111 => ?_) (fun h111 => ?_)
                          · skip
                            refine j_iload_n hx 2 dX12_book_203 rfl ?_
                            exact j_iret hx hq rfl (by decide) (by decide) dX12_book_204 ⟨v102, rfl, rfl, hS_s45, (zFr_t (zFr_u (zFr_t (zFr_t (zFr_t (zFr_t (zFr_t (zFr_t (zFr_t (zFr_u zFr_rf e_s1 ha (by decide)) hF_s2 (by decide)) hF_s3 (by decide)) hF_s5 (by decide)) hF_s25 (by decide)) hF_s38 (by decide)) hF_s39 (by decide)) hF_s42 (by decide)) e_s43 ha (by decide)) hF_s45 (by decide)), (by omega)⟩
                          · skip
                            refine j_aload_n hx 0 dX12_book_183 rfl ?_
                            refine g13_40 hx hG ha kf_RX12_92 dX12_book_184 ?_
                            refine j_iload hx 3 dX12_book_187 rfl ?_
                            refine j_aload_n hx 0 dX12_book_189 rfl ?_
                            refine g13_39 hx hG ha kf_RX12_89 dX12_book_190 ?_
                            refine j_iload hx 3 dX12_book_193 rfl ?_
                            have f112 := zaI (j := (v106).toNat) hS_s5 (zr (k := 39) (t2 := 96) hG ha rfl) rfl (zlen hG (zr (k := 39) (t2 := 96) hG ha rfl) (n := 24) rfl rfl) (show 0 ≤ v106 by omega) (by omega) rfl
                            refine j_iald hx hG (zr (k := 39) (t2 := 96) hG ha rfl) (by decide) rfl (zlen hG (zr (k := 39) (t2 := 96) hG ha rfl) (n := 24) rfl rfl) (by omega) (by omega) (j := (v106).toNat) rfl (v := (s5 (gP G a 39) (v106).toNat)) (by rw [(zFr_g hF_s45 (zr (k := 39) (t2 := 96) hG ha rfl) (by decide)), e_s43, zU_at (Or.inl (zne ha (zr (k := 39) (t2 := 96) hG ha rfl) (by decide))), (zFr_g hF_s42 (zr (k := 39) (t2 := 96) hG ha rfl) (by decide)), (zFr_g hF_s39 (zr (k := 39) (t2 := 96) hG ha rfl) (by decide)), (zFr_g hF_s38 (zr (k := 39) (t2 := 96) hG ha rfl) (by decide)), (zFr_g hF_s25 (zr (k := 39) (t2 := 96) hG ha rfl) (by decide))]) dX12_book_195 ?_
                            refine j_iast hx hG (zr (k := 40) (t2 := 97) hG ha rfl) (by decide) rfl (zlen hG (zr (k := 40) (t2 := 97) hG ha rfl) (n := 24) rfl rfl) (by omega) (by omega) (j := (v106).toNat) rfl dX12_book_196 ?_
                            obtain ⟨s49, e_s49⟩ : ∃ z, z = zU s45 (gP G a 40) (v106).toNat ((s5 (gP G a 39) (v106).toNat)) := ⟨_, rfl⟩
                            rw [← e_s49]
                            have hS_s49 : zSK G s49 := by rw [e_s49]; exact zSK_A hS_s45 (zr (k := 40) (t2 := 97) hG ha rfl) rfl rfl rfl (by omega)
                            refine j_iinc hx 3 [(4, .int (zI (v106 + 1))), (0, .ref a), (2, .int (zI v7)), (3, .int (zI v102))] dX12_book_197 rfl (by omega) (by decide) rfl ?_
                            refine j_goto hx 175 dX12_book_200 rfl ?_
                            exact j_sub [1, 2, 3, 0] [(0, .ref a), (2, .int (zI v7)), (3, .int (zI v102)), (4, .int (zI (v106 + 1)))] rfl (ih_c175_44 (v106 + 1) s49 (by omega) (by omega) hS_s49 (zFr_u (zFr_t zFr_rf hF_s45 (by decide)) e_s49 (zr (k := 40) (t2 := 97) hG ha rfl) (by decide)))
                      exact j_sub [3, 4, 1, 0] [(0, .ref a), (2, .int (zI v7)), (3, .int (zI v102)), (4, .int (zI 0))] rfl (c175_44 (2147483648 * 4) 0 s43 (by omega) (by omega) hS_s43 zFr_rf)
                    · skip
                      refine j_iload_n hx 0 dX12_book_165 rfl ?_
                      exact j_iret hx hq rfl (by decide) (by decide) dX12_book_166 ⟨v102, rfl, rfl, hS_s42, (zFr_t (zFr_t (zFr_t (zFr_t (zFr_t (zFr_t (zFr_t (zFr_u zFr_rf e_s1 ha (by decide)) hF_s2 (by decide)) hF_s3 (by decide)) hF_s5 (by decide)) hF_s25 (by decide)) hF_s38 (by decide)) hF_s39 (by decide)) hF_s42 (by decide)), (by omega)⟩
                · skip
                  refine j_aload_n hx 2 dX12_book_88 rfl ?_
                  refine j_iconst hx dX12_book_89 ?_
                  refine j_iload_n hx 1 dX12_book_90 rfl ?_
                  refine j_callV hx hG (c_X12_wrong hst a 3 ((s5 a 4))) lk_RX12_173 ha (by decide) rfl rfl rfl rfl [.int (zI 3), .int (zI ((s5 a 4)))] ⟨rfl, hG, hS_s25, ha, (by omega), (by omega)⟩ rfl rfl ⟨by decide, by decide⟩ ⟨by decide, by decide⟩ (k2 := 0) (n2 := 0) rfl rfl (Nat.le_of_ble_eq_true rfl) dX12_book_91 (kVM (fun s50 hS_s50 hF_s50 q114 => ?_))
                  refine j_aload_n hx 2 dX12_book_94 rfl ?_
                  refine j_iconst hx dX12_book_95 ?_
                  refine j_aload_n hx 2 dX12_book_96 rfl ?_
                  have f115 := zf hS_s50 ha (k := 24) rfl
                  refine g13_24 hx hG ha kf_RX12_189 rfl dX12_book_97 ?_
                  refine j_iconst hx dX12_book_100 ?_
                  refine j_isub hx (r := (s50 a 24) - 1) dX12_book_101 (by omega) ?_
                  refine j_callV hx hG (c_X12_readNumber hst a 0 ((s50 a 24) - 1)) lk_RX12_219 ha (by decide) rfl rfl rfl rfl [.int (zI 0), .int (zI ((s50 a 24) - 1))] ⟨rfl, hG, hS_s50, ha, (by omega), (by omega)⟩ rfl rfl ⟨by decide, by decide⟩ ⟨by decide, by decide⟩ (k2 := 0) (n2 := 0) rfl rfl (Nat.le_of_ble_eq_true rfl) dX12_book_102 (kIM (fun v116 s51 hS_s51 hF_s51 q117 => ?_))
                  refine j_istore hx [(5, .int (zI v116)), (4, .int (zI v37)), (3, .int (zI ((s5 a 4)))), (0, .ref a), (2, .int (zI v7))] dX12_book_105 (by decide) rfl ?_
                  refine j_aload_n hx 3 dX12_book_107 rfl ?_
                  refine j_bipush hx dX12_book_108 rfl ?_
                  refine j_callV hx hG (c_X12_sign hst a 59) lk_RX12_262 ha (by decide) rfl rfl rfl rfl [.int (zI 59)] ⟨rfl, hG, hS_s51, ha, (by omega)⟩ rfl rfl ⟨by decide, by decide⟩ ⟨by decide, by decide⟩ (k2 := 0) (n2 := 0) rfl rfl (Nat.le_of_ble_eq_true rfl) dX12_book_110 (kVM (fun s52 hS_s52 hF_s52 q119 => ?_))
                  refine j_aload_n hx 3 dX12_book_113 rfl ?_
                  refine j_callV hx hG (c_X12_fine hst a) lk_RX12_166 ha (by decide) rfl rfl rfl rfl [] ⟨rfl, hG, hS_s52, ha⟩ rfl rfl ⟨by decide, by decide⟩ ⟨by decide, by decide⟩ (k2 := 0) (n2 := 0) rfl rfl (Nat.le_of_ble_eq_true rfl) dX12_book_114 (kIP (fun v120 q121 => ?_))
                  refine j_if_ne hx 123 dX12_book_117 rfl (by omega) (fun h122 => ?_) (fun h122 => ?_)
                  · skip
                    refine j_aload_n hx 3 dX12_book_123 rfl ?_
                    refine g13_39 hx hG ha kf_RX12_89 dX12_book_124 ?_
                    refine j_iconst hx dX12_book_127 ?_
                    refine j_iload_n hx 4 dX12_book_128 rfl ?_
                    refine j_imul hx (r := 2 * v7) dX12_book_129 rfl ?_
                    refine j_iload hx 1 dX12_book_130 rfl ?_
                    refine j_iast hx hG (zr (k := 39) (t2 := 96) hG ha rfl) (by decide) rfl (zlen hG (zr (k := 39) (t2 := 96) hG ha rfl) (n := 24) rfl rfl) (by omega) (by omega) (j := (2 * v7).toNat) rfl dX12_book_132 ?_
                    obtain ⟨s53, e_s53⟩ : ∃ z, z = zU s52 (gP G a 39) (2 * v7).toNat v37 := ⟨_, rfl⟩
                    rw [← e_s53]
                    have hS_s53 : zSK G s53 := by rw [e_s53]; exact zSK_A hS_s52 (zr (k := 39) (t2 := 96) hG ha rfl) rfl rfl rfl (by omega)
                    refine j_aload_n hx 3 dX12_book_133 rfl ?_
                    refine g13_39 hx hG ha kf_RX12_89 dX12_book_134 ?_
                    refine j_iconst hx dX12_book_137 ?_
                    refine j_iload_n hx 4 dX12_book_138 rfl ?_
                    refine j_imul hx (r := 2 * v7) dX12_book_139 rfl ?_
                    refine j_iconst hx dX12_book_140 ?_
                    refine j_iadd hx (r := 2 * v7 + 1) dX12_book_141 (by omega) ?_
                    refine j_iload hx 0 dX12_book_142 rfl ?_
                    refine j_iast hx hG (zr (k := 39) (t2 := 96) hG ha rfl) (by decide) rfl (zlen hG (zr (k := 39) (t2 := 96) hG ha rfl) (n := 24) rfl rfl) (by omega) (by omega) (j := (2 * v7 + 1).toNat) rfl dX12_book_144 ?_
                    obtain ⟨s54, e_s54⟩ : ∃ z, z = zU s53 (gP G a 39) (2 * v7 + 1).toNat v116 := ⟨_, rfl⟩
                    rw [← e_s54]
                    have hS_s54 : zSK G s54 := by rw [e_s54]; exact zSK_A hS_s53 (zr (k := 39) (t2 := 96) hG ha rfl) rfl rfl rfl (by omega)
                    refine j_iinc hx 4 [(2, .int (zI (v7 + 1))), (5, .int (zI v116)), (4, .int (zI v37)), (3, .int (zI ((s5 a 4)))), (0, .ref a)] dX12_book_145 rfl (by omega) (by decide) rfl ?_
                    refine j_goto hx 46 dX12_book_148 rfl ?_
                    exact j_sub [4, 0] [(0, .ref a), (2, .int (zI (v7 + 1)))] rfl (ih_c46_4 (v7 + 1) s54 (by omega) (by omega) hS_s54 (zFr_u (zFr_u (zFr_t (zFr_t (zFr_t (zFr_t (zFr_t zFr_rf hF_s5 (by decide)) hF_s25 (by decide)) hF_s50 (by decide)) hF_s51 (by decide)) hF_s52 (by decide)) e_s53 (zr (k := 39) (t2 := 96) hG ha rfl) (by decide)) e_s54 (zr (k := 39) (t2 := 96) hG ha rfl) (by decide)))
                  · skip
                    refine j_goto hx 151 dX12_book_120 rfl ?_
                    refine j_aload_n hx 3 dX12_book_151 rfl ?_
                    refine j_iload_n hx 4 dX12_book_152 rfl ?_
                    refine j_callV hx hG (c_X12_result hst a v7) lk_RX12_265 ha (by decide) rfl rfl rfl rfl [.int (zI v7)] ⟨rfl, hG, hS_s52, ha, (by omega)⟩ rfl rfl ⟨by decide, by decide⟩ ⟨by decide, by decide⟩ (k2 := 0) (n2 := 0) rfl rfl (Nat.le_of_ble_eq_true rfl) dX12_book_153 (kIM (fun v123 s55 hS_s55 hF_s55 q124 => ?_))
                    refine j_istore_n hx [(3, .int (zI v123)), (5, .int (zI v116)), (4, .int (zI v37)), (0, .ref a), (2, .int (zI v7))] dX12_book_156 (by decide) rfl ?_
                    refine j_aload_n hx 3 dX12_book_157 rfl ?_
                    have f125 := zf hS_s55 ha (k := 5) rfl
                    refine g13_5 hx hG ha kf_RX12_137 rfl dX12_book_158 ?_
                    refine j_iconst hx dX12_book_161 ?_
                    refine j_icmp_eq hx 167 dX12_book_162 rfl (by omega) ⟨by decide, by decide⟩ (fun h126 => ?_) (fun h126 => ?_)
                    · skip
                      refine j_aload_n hx 3 dX12_book_167 rfl ?_
                      refine j_iload_n hx 4 dX12_book_168 rfl ?_
                      refine p13_41 hx hG ha kf_RX12_198 dX12_book_169 ?_
                      obtain ⟨s56, e_s56⟩ : ∃ z, z = zU s55 a 41 v7 := ⟨_, rfl⟩
                      rw [← e_s56]
                      have hS_s56 : zSK G s56 := by rw [e_s56]; exact zSK_F hS_s55 ha rfl rfl rfl (by omega)
                      refine j_iconst hx dX12_book_172 ?_
                      refine j_istore hx [(4, .int (zI 0)), (3, .int (zI v123)), (5, .int (zI v116)), (0, .ref a), (2, .int (zI v7))] dX12_book_173 (by decide) rfl ?_
                      have c175_57 : ∀ (m_c175_57 : Nat) (v127 : Int) (s58 : zS), 2147483648 - v127 < m_c175_57 → (0 ≤ v127 ∧ v127 ≤ 2147483647) → (zSK G s58) → (zFr [97] G s56 s58) → JJ X E 6 G s58 0 0 [(0, .ref a), (2, .int (zI v7)), (3, .int (zI v123)), (4, .int (zI v127))] 175 [] := by
                        intro m_c175_57
                        induction m_c175_57 with
                        | zero => intro v127 s58 hm_c175_57 f59 hS_s58 hF_s58; exfalso; omega
                        | succ m_c175_57 ih_c175_57 => 
                          intro v127 s58 hm_c175_57 f59 hS_s58 hF_s58
                          refine j_iload hx 3 dX12_book_175 rfl ?_
                          refine j_iconst hx dX12_book_177 ?_
                          refine j_iload_n hx 1 dX12_book_178 rfl ?_
                          refine j_imul hx (r := 2 * v7) dX12_book_179 rfl ?_
                          refine j_icmp_ge hx 203 dX12_book_180 rfl (by omega) (by omega) (fun h128 => ?_) (fun h128 => ?_)
                          · skip
                            refine j_iload_n hx 2 dX12_book_203 rfl ?_
                            exact j_iret hx hq rfl (by decide) (by decide) dX12_book_204 ⟨v123, rfl, rfl, hS_s58, (zFr_t (zFr_u (zFr_t (zFr_t (zFr_t (zFr_t (zFr_t (zFr_t (zFr_t (zFr_t (zFr_u zFr_rf e_s1 ha (by decide)) hF_s2 (by decide)) hF_s3 (by decide)) hF_s5 (by decide)) hF_s25 (by decide)) hF_s50 (by decide)) hF_s51 (by decide)) hF_s52 (by decide)) hF_s55 (by decide)) e_s56 ha (by decide)) hF_s58 (by decide)), (by omega)⟩
                          · skip
                            refine j_aload_n hx 0 dX12_book_183 rfl ?_
                            refine g13_40 hx hG ha kf_RX12_92 dX12_book_184 ?_
                            refine j_iload hx 3 dX12_book_187 rfl ?_
                            refine j_aload_n hx 0 dX12_book_189 rfl ?_
                            refine g13_39 hx hG ha kf_RX12_89 dX12_book_190 ?_
                            refine j_iload hx 3 dX12_book_193 rfl ?_
                            have f129 := zaI (j := (v127).toNat) hS_s5 (zr (k := 39) (t2 := 96) hG ha rfl) rfl (zlen hG (zr (k := 39) (t2 := 96) hG ha rfl) (n := 24) rfl rfl) (show 0 ≤ v127 by omega) (by omega) rfl
                            refine j_iald hx hG (zr (k := 39) (t2 := 96) hG ha rfl) (by decide) rfl (zlen hG (zr (k := 39) (t2 := 96) hG ha rfl) (n := 24) rfl rfl) (by omega) (by omega) (j := (v127).toNat) rfl (v := (s5 (gP G a 39) (v127).toNat)) (by rw [(zFr_g hF_s58 (zr (k := 39) (t2 := 96) hG ha rfl) (by decide)), e_s56, zU_at (Or.inl (zne ha (zr (k := 39) (t2 := 96) hG ha rfl) (by decide))), (zFr_g hF_s55 (zr (k := 39) (t2 := 96) hG ha rfl) (by decide)), (zFr_g hF_s52 (zr (k := 39) (t2 := 96) hG ha rfl) (by decide)), (zFr_g hF_s51 (zr (k := 39) (t2 := 96) hG ha rfl) (by decide)), (zFr_g hF_s50 (zr (k := 39) (t2 := 96) hG ha rfl) (by decide)), (zFr_g hF_s25 (zr (k := 39) (t2 := 96) hG ha rfl) (by decide))]) dX12_book_195 ?_
                            refine j_iast hx hG (zr (k := 40) (t2 := 97) hG ha rfl) (by decide) rfl (zlen hG (zr (k := 40) (t2 := 97) hG ha rfl) (n := 24) rfl rfl) (by omega) (by omega) (j := (v127).toNat) rfl dX12_book_196 ?_
                            obtain ⟨s62, e_s62⟩ : ∃ z, z = zU s58 (gP G a 40) (v127).toNat ((s5 (gP G a 39) (v127).toNat)) := ⟨_, rfl⟩
                            rw [← e_s62]
                            have hS_s62 : zSK G s62 := by rw [e_s62]; exact zSK_A hS_s58 (zr (k := 40) (t2 := 97) hG ha rfl) rfl rfl rfl (by omega)
                            refine j_iinc hx 3 [(4, .int (zI (v127 + 1))), (0, .ref a), (2, .int (zI v7)), (3, .int (zI v123))] dX12_book_197 rfl (by omega) (by decide) rfl ?_
                            refine j_goto hx 175 dX12_book_200 rfl ?_
                            exact j_sub [1, 2, 3, 0] [(0, .ref a), (2, .int (zI v7)), (3, .int (zI v123)), (4, .int (zI (v127 + 1)))] rfl (ih_c175_57 (v127 + 1) s62 (by omega) (by omega) hS_s62 (zFr_u (zFr_t zFr_rf hF_s58 (by decide)) e_s62 (zr (k := 40) (t2 := 97) hG ha rfl) (by decide)))
                      exact j_sub [3, 4, 1, 0] [(0, .ref a), (2, .int (zI v7)), (3, .int (zI v123)), (4, .int (zI 0))] rfl (c175_57 (2147483648 * 4) 0 s56 (by omega) (by omega) hS_s56 zFr_rf)
                    · skip
                      refine j_iload_n hx 0 dX12_book_165 rfl ?_
                      exact j_iret hx hq rfl (by decide) (by decide) dX12_book_166 ⟨v123, rfl, rfl, hS_s55, (zFr_t (zFr_t (zFr_t (zFr_t (zFr_t (zFr_t (zFr_t (zFr_t (zFr_u zFr_rf e_s1 ha (by decide)) hF_s2 (by decide)) hF_s3 (by decide)) hF_s5 (by decide)) hF_s25 (by decide)) hF_s50 (by decide)) hF_s51 (by decide)) hF_s52 (by decide)) hF_s55 (by decide)), (by omega)⟩
      exact j_sub [1, 0] [(0, .ref a), (2, .int (zI 0))] rfl (c46_4 (2147483648 * 4) 0 s3 (by omega) (by omega) hS_s3 zFr_rf)
    · skip
      refine j_iconst hx dX12_book_37 ?_
      exact j_iret hx hq rfl (by decide) (by decide) dX12_book_38 ⟨0, rfl, rfl, hS_s2, (zFr_t (zFr_u zFr_rf e_s1 ha (by decide)) hF_s2 (by decide)), (by omega)⟩
  · skip
    refine j_iload_n hx 1 dX12_book_10 rfl ?_
    refine j_aload_n hx 0 dX12_book_11 rfl ?_
    have f130 := z0f hF0 ha (k := 2) rfl
    refine g13_2 hx hG ha kf_RX12_134 (v := (s0 a 2)) (by rw [e_s1, zU_at (Or.inr (by decide))]) dX12_book_12 ?_
    refine j_icmp_gt hx 28 dX12_book_15 rfl (by omega) (by omega) (fun h131 => ?_) (fun h131 => ?_)
    · skip
      refine j_iconst hx dX12_book_28 ?_
      refine j_iconst hx dX12_book_29 ?_
      refine j_iconst hx dX12_book_30 ?_
      refine j_callV hx hG (c_X12_may hst a 0 1 1) lk_RX12_240 ha (by decide) rfl rfl rfl rfl [.int (zI 0), .int (zI 1), .int (zI 1)] ⟨rfl, hG, hS_s1, ha, (by omega), (by omega), (by omega)⟩ rfl rfl ⟨by decide, by decide⟩ ⟨by decide, by decide⟩ (k2 := 0) (n2 := 0) rfl rfl (Nat.le_of_ble_eq_true rfl) dX12_book_31 (kIM (fun v132 s63 hS_s63 hF_s63 q133 => ?_))
      refine j_if_ne hx 39 dX12_book_34 rfl (by omega) (fun h134 => ?_) (fun h134 => ?_)
      · skip
        refine j_aload_n hx 0 dX12_book_39 rfl ?_
        refine j_iload_n hx 1 dX12_book_40 rfl ?_
        refine j_callV hx hG (c_X12_begins hst a x1) lk_RX12_244 ha (by decide) rfl rfl rfl rfl [.int (zI x1)] ⟨rfl, hG, hS_s63, ha, (by omega)⟩ rfl rfl ⟨by decide, by decide⟩ ⟨by decide, by decide⟩ (k2 := 0) (n2 := 0) rfl rfl (Nat.le_of_ble_eq_true rfl) dX12_book_41 (kVM (fun s64 hS_s64 hF_s64 q136 => ?_))
        refine j_iconst hx dX12_book_44 ?_
        refine j_istore_n hx [(2, .int (zI 0)), (0, .ref a), (1, .int (zI x1))] dX12_book_45 (by decide) rfl ?_
        have c46_65 : ∀ (m_c46_65 : Nat) (v137 : Int) (s66 : zS), 2147483648 - v137 < m_c46_65 → ((-2147483648) ≤ v137 ∧ v137 ≤ 2147483647) → (zSK G s66) → (zFr [13, 96] G s64 s66) → JJ X E 6 G s66 0 0 [(0, .ref a), (2, .int (zI v137))] 46 [] := by
          intro m_c46_65
          induction m_c46_65 with
          | zero => intro v137 s66 hm_c46_65 f67 hS_s66 hF_s66; exfalso; omega
          | succ m_c46_65 ih_c46_65 => 
            intro v137 s66 hm_c46_65 f67 hS_s66 hF_s66
            refine j_aload_n hx 0 dX12_book_46 rfl ?_
            refine j_callV hx hG (c_X12_fine hst a) lk_RX12_166 ha (by decide) rfl rfl rfl rfl [] ⟨rfl, hG, hS_s66, ha⟩ rfl rfl ⟨by decide, by decide⟩ ⟨by decide, by decide⟩ (k2 := 0) (n2 := 0) rfl rfl (Nat.le_of_ble_eq_true rfl) dX12_book_47 (kIP (fun v138 q139 => ?_))
            refine j_if_eq hx 151 dX12_book_50 rfl (by omega) (fun h140 => ?_) (fun h140 => ?_)
            · skip
              refine j_aload_n hx 0 dX12_book_151 rfl ?_
              refine j_iload_n hx 1 dX12_book_152 rfl ?_
              refine j_callV hx hG (c_X12_result hst a v137) lk_RX12_265 ha (by decide) rfl rfl rfl rfl [.int (zI v137)] ⟨rfl, hG, hS_s66, ha, (by omega)⟩ rfl rfl ⟨by decide, by decide⟩ ⟨by decide, by decide⟩ (k2 := 0) (n2 := 0) rfl rfl (Nat.le_of_ble_eq_true rfl) dX12_book_153 (kIM (fun v141 s70 hS_s70 hF_s70 q142 => ?_))
              refine j_istore_n hx [(3, .int (zI v141)), (0, .ref a), (2, .int (zI v137))] dX12_book_156 (by decide) rfl ?_
              refine j_aload_n hx 1 dX12_book_157 rfl ?_
              have f143 := zf hS_s70 ha (k := 5) rfl
              refine g13_5 hx hG ha kf_RX12_137 rfl dX12_book_158 ?_
              refine j_iconst hx dX12_book_161 ?_
              refine j_icmp_eq hx 167 dX12_book_162 rfl (by omega) ⟨by decide, by decide⟩ (fun h144 => ?_) (fun h144 => ?_)
              · skip
                refine j_aload_n hx 1 dX12_book_167 rfl ?_
                refine j_iload_n hx 2 dX12_book_168 rfl ?_
                refine p13_41 hx hG ha kf_RX12_198 dX12_book_169 ?_
                obtain ⟨s71, e_s71⟩ : ∃ z, z = zU s70 a 41 v137 := ⟨_, rfl⟩
                rw [← e_s71]
                have hS_s71 : zSK G s71 := by rw [e_s71]; exact zSK_F hS_s70 ha rfl rfl rfl (by omega)
                refine j_iconst hx dX12_book_172 ?_
                refine j_istore hx [(4, .int (zI 0)), (3, .int (zI v141)), (0, .ref a), (2, .int (zI v137))] dX12_book_173 (by decide) rfl ?_
                have c175_72 : ∀ (m_c175_72 : Nat) (v145 : Int) (s73 : zS), 2147483648 - v145 < m_c175_72 → (0 ≤ v145 ∧ v145 ≤ 2147483647) → (zSK G s73) → (zFr [97] G s71 s73) → JJ X E 6 G s73 0 0 [(0, .ref a), (2, .int (zI v137)), (3, .int (zI v141)), (4, .int (zI v145))] 175 [] := by
                  intro m_c175_72
                  induction m_c175_72 with
                  | zero => intro v145 s73 hm_c175_72 f74 hS_s73 hF_s73; exfalso; omega
                  | succ m_c175_72 ih_c175_72 => 
                    intro v145 s73 hm_c175_72 f74 hS_s73 hF_s73
                    refine j_iload hx 3 dX12_book_175 rfl ?_
                    refine j_iconst hx dX12_book_177 ?_
                    refine j_iload_n hx 1 dX12_book_178 rfl ?_
                    refine j_imul hx (r := 2 * v137) dX12_book_179 rfl ?_
                    refine j_norm (fun v146 f147 f148 f149 => ?_)
                    refine j_icmp_ge hx 203 dX12_book_180 rfl (by omega) (by omega) (fun h150 => ?_) (fun h150 => ?_)
                    · skip
                      refine j_iload_n hx 2 dX12_book_203 rfl ?_
                      exact j_iret hx hq rfl (by decide) (by decide) dX12_book_204 ⟨v141, rfl, rfl, hS_s73, (zFr_t (zFr_u (zFr_t (zFr_t (zFr_t (zFr_t (zFr_u zFr_rf e_s1 ha (by decide)) hF_s63 (by decide)) hF_s64 (by decide)) hF_s66 (by decide)) hF_s70 (by decide)) e_s71 ha (by decide)) hF_s73 (by decide)), (by omega)⟩
                    · skip
                      refine j_aload_n hx 0 dX12_book_183 rfl ?_
                      refine g13_40 hx hG ha kf_RX12_92 dX12_book_184 ?_
                      refine j_iload hx 3 dX12_book_187 rfl ?_
                      refine j_aload_n hx 0 dX12_book_189 rfl ?_
                      refine g13_39 hx hG ha kf_RX12_89 dX12_book_190 ?_
                      refine j_iload hx 3 dX12_book_193 rfl ?_
                      have f151 := zaI (j := (v145).toNat) hS_s66 (zr (k := 39) (t2 := 96) hG ha rfl) rfl (zlen hG (zr (k := 39) (t2 := 96) hG ha rfl) (n := 24) rfl rfl) (show 0 ≤ v145 by omega) (by omega) rfl
                      refine j_iald hx hG (zr (k := 39) (t2 := 96) hG ha rfl) (by decide) rfl (zlen hG (zr (k := 39) (t2 := 96) hG ha rfl) (n := 24) rfl rfl) (by omega) (by omega) (j := (v145).toNat) rfl (v := (s66 (gP G a 39) (v145).toNat)) (by rw [(zFr_g hF_s73 (zr (k := 39) (t2 := 96) hG ha rfl) (by decide)), e_s71, zU_at (Or.inl (zne ha (zr (k := 39) (t2 := 96) hG ha rfl) (by decide))), (zFr_g hF_s70 (zr (k := 39) (t2 := 96) hG ha rfl) (by decide))]) dX12_book_195 ?_
                      refine j_iast hx hG (zr (k := 40) (t2 := 97) hG ha rfl) (by decide) rfl (zlen hG (zr (k := 40) (t2 := 97) hG ha rfl) (n := 24) rfl rfl) (by omega) (by omega) (j := (v145).toNat) rfl dX12_book_196 ?_
                      obtain ⟨s77, e_s77⟩ : ∃ z, z = zU s73 (gP G a 40) (v145).toNat ((s66 (gP G a 39) (v145).toNat)) := ⟨_, rfl⟩
                      rw [← e_s77]
                      have hS_s77 : zSK G s77 := by rw [e_s77]; exact zSK_A hS_s73 (zr (k := 40) (t2 := 97) hG ha rfl) rfl rfl rfl (by omega)
                      refine j_iinc hx 3 [(4, .int (zI (v145 + 1))), (0, .ref a), (2, .int (zI v137)), (3, .int (zI v141))] dX12_book_197 rfl (by omega) (by decide) rfl ?_
                      refine j_goto hx 175 dX12_book_200 rfl ?_
                      exact j_sub [1, 2, 3, 0] [(0, .ref a), (2, .int (zI v137)), (3, .int (zI v141)), (4, .int (zI (v145 + 1)))] rfl (ih_c175_72 (v145 + 1) s77 (by omega) (by omega) hS_s77 (zFr_u (zFr_t zFr_rf hF_s73 (by decide)) e_s77 (zr (k := 40) (t2 := 97) hG ha rfl) (by decide)))
                exact j_sub [2, 3, 1, 0] [(0, .ref a), (2, .int (zI v137)), (3, .int (zI v141)), (4, .int (zI 0))] rfl (c175_72 (2147483648 * 4) 0 s71 (by omega) (by omega) hS_s71 zFr_rf)
              · skip
                refine j_iload_n hx 0 dX12_book_165 rfl ?_
                exact j_iret hx hq rfl (by decide) (by decide) dX12_book_166 ⟨v141, rfl, rfl, hS_s70, (zFr_t (zFr_t (zFr_t (zFr_t (zFr_u zFr_rf e_s1 ha (by decide)) hF_s63 (by decide)) hF_s64 (by decide)) hF_s66 (by decide)) hF_s70 (by decide)), (by omega)⟩
            · skip
              refine j_aload_n hx 0 dX12_book_53 rfl ?_
              refine j_callV hx hG (c_X12_isMore hst a) lk_RX12_247 ha (by decide) rfl rfl rfl rfl [] ⟨rfl, hG, hS_s66, ha⟩ rfl rfl ⟨by decide, by decide⟩ ⟨by decide, by decide⟩ (k2 := 0) (n2 := 0) rfl rfl (Nat.le_of_ble_eq_true rfl) dX12_book_54 (kIP (fun v152 q153 => ?_))
              refine j_if_eq hx 151 dX12_book_57 rfl (by omega) (fun h154 => ?_) (fun h154 => ?_)
              · skip
                refine j_aload_n hx 0 dX12_book_151 rfl ?_
                refine j_iload_n hx 1 dX12_book_152 rfl ?_
                refine j_callV hx hG (c_X12_result hst a v137) lk_RX12_265 ha (by decide) rfl rfl rfl rfl [.int (zI v137)] ⟨rfl, hG, hS_s66, ha, (by omega)⟩ rfl rfl ⟨by decide, by decide⟩ ⟨by decide, by decide⟩ (k2 := 0) (n2 := 0) rfl rfl (Nat.le_of_ble_eq_true rfl) dX12_book_153 (kIM (fun v155 s78 hS_s78 hF_s78 q156 => ?_))
                refine j_istore_n hx [(3, .int (zI v155)), (0, .ref a), (2, .int (zI v137))] dX12_book_156 (by decide) rfl ?_
                refine j_aload_n hx 1 dX12_book_157 rfl ?_
                have f157 := zf hS_s78 ha (k := 5) rfl
                refine g13_5 hx hG ha kf_RX12_137 rfl dX12_book_158 ?_
                refine j_iconst hx dX12_book_161 ?_
                refine j_icmp_eq hx 167 dX12_book_162 rfl (by omega) ⟨by decide, by decide⟩ (fun h158 => ?_) (fun h158 => ?_)
                · skip
                  refine j_aload_n hx 1 dX12_book_167 rfl ?_
                  refine j_iload_n hx 2 dX12_book_168 rfl ?_
                  refine p13_41 hx hG ha kf_RX12_198 dX12_book_169 ?_
                  obtain ⟨s79, e_s79⟩ : ∃ z, z = zU s78 a 41 v137 := ⟨_, rfl⟩
                  rw [← e_s79]
                  have hS_s79 : zSK G s79 := by rw [e_s79]; exact zSK_F hS_s78 ha rfl rfl rfl (by omega)
                  refine j_iconst hx dX12_book_172 ?_
                  refine j_istore hx [(4, .int (zI 0)), (3, .int (zI v155)), (0, .ref a), (2, .int (zI v137))] dX12_book_173 (by decide) rfl ?_
                  have c175_80 : ∀ (m_c175_80 : Nat) (v159 : Int) (s81 : zS), 2147483648 - v159 < m_c175_80 → (0 ≤ v159 ∧ v159 ≤ 2147483647) → (zSK G s81) → (zFr [97] G s79 s81) → JJ X E 6 G s81 0 0 [(0, .ref a), (2, .int (zI v137)), (3, .int (zI v155)), (4, .int (zI v159))] 175 [] := by
                    intro m_c175_80
                    induction m_c175_80 with
                    | zero => intro v159 s81 hm_c175_80 f82 hS_s81 hF_s81; exfalso; omega
                    | succ m_c175_80 ih_c175_80 => 
                      intro v159 s81 hm_c175_80 f82 hS_s81 hF_s81
                      refine j_iload hx 3 dX12_book_175 rfl ?_
                      refine j_iconst hx dX12_book_177 ?_
                      refine j_iload_n hx 1 dX12_book_178 rfl ?_
                      refine j_imul hx (r := 2 * v137) dX12_book_179 rfl ?_
                      refine j_norm (fun v160 f161 f162 f163 => ?_)
                      refine j_icmp_ge hx 203 dX12_book_180 rfl (by omega) (by omega) (fun h164 => ?_) (fun h164 => ?_)
                      · skip
                        refine j_iload_n hx 2 dX12_book_203 rfl ?_
                        exact j_iret hx hq rfl (by decide) (by decide) dX12_book_204 ⟨v155, rfl, rfl, hS_s81, (zFr_t (zFr_u (zFr_t (zFr_t (zFr_t (zFr_t (zFr_u zFr_rf e_s1 ha (by decide)) hF_s63 (by decide)) hF_s64 (by decide)) hF_s66 (by decide)) hF_s78 (by decide)) e_s79 ha (by decide)) hF_s81 (by decide)), (by omega)⟩
                      · skip
                        refine j_aload_n hx 0 dX12_book_183 rfl ?_
                        refine g13_40 hx hG ha kf_RX12_92 dX12_book_184 ?_
                        refine j_iload hx 3 dX12_book_187 rfl ?_
                        refine j_aload_n hx 0 dX12_book_189 rfl ?_
                        refine g13_39 hx hG ha kf_RX12_89 dX12_book_190 ?_
                        refine j_iload hx 3 dX12_book_193 rfl ?_
                        have f165 := zaI (j := (v159).toNat) hS_s66 (zr (k := 39) (t2 := 96) hG ha rfl) rfl (zlen hG (zr (k := 39) (t2 := 96) hG ha rfl) (n := 24) rfl rfl) (show 0 ≤ v159 by omega) (by omega) rfl
                        refine j_iald hx hG (zr (k := 39) (t2 := 96) hG ha rfl) (by decide) rfl (zlen hG (zr (k := 39) (t2 := 96) hG ha rfl) (n := 24) rfl rfl) (by omega) (by omega) (j := (v159).toNat) rfl (v := (s66 (gP G a 39) (v159).toNat)) (by rw [(zFr_g hF_s81 (zr (k := 39) (t2 := 96) hG ha rfl) (by decide)), e_s79, zU_at (Or.inl (zne ha (zr (k := 39) (t2 := 96) hG ha rfl) (by decide))), (zFr_g hF_s78 (zr (k := 39) (t2 := 96) hG ha rfl) (by decide))]) dX12_book_195 ?_
                        refine j_iast hx hG (zr (k := 40) (t2 := 97) hG ha rfl) (by decide) rfl (zlen hG (zr (k := 40) (t2 := 97) hG ha rfl) (n := 24) rfl rfl) (by omega) (by omega) (j := (v159).toNat) rfl dX12_book_196 ?_
                        obtain ⟨s85, e_s85⟩ : ∃ z, z = zU s81 (gP G a 40) (v159).toNat ((s66 (gP G a 39) (v159).toNat)) := ⟨_, rfl⟩
                        rw [← e_s85]
                        have hS_s85 : zSK G s85 := by rw [e_s85]; exact zSK_A hS_s81 (zr (k := 40) (t2 := 97) hG ha rfl) rfl rfl rfl (by omega)
                        refine j_iinc hx 3 [(4, .int (zI (v159 + 1))), (0, .ref a), (2, .int (zI v137)), (3, .int (zI v155))] dX12_book_197 rfl (by omega) (by decide) rfl ?_
                        refine j_goto hx 175 dX12_book_200 rfl ?_
                        exact j_sub [1, 2, 3, 0] [(0, .ref a), (2, .int (zI v137)), (3, .int (zI v155)), (4, .int (zI (v159 + 1)))] rfl (ih_c175_80 (v159 + 1) s85 (by omega) (by omega) hS_s85 (zFr_u (zFr_t zFr_rf hF_s81 (by decide)) e_s85 (zr (k := 40) (t2 := 97) hG ha rfl) (by decide)))
                  exact j_sub [2, 3, 1, 0] [(0, .ref a), (2, .int (zI v137)), (3, .int (zI v155)), (4, .int (zI 0))] rfl (c175_80 (2147483648 * 4) 0 s79 (by omega) (by omega) hS_s79 zFr_rf)
                · skip
                  refine j_iload_n hx 0 dX12_book_165 rfl ?_
                  exact j_iret hx hq rfl (by decide) (by decide) dX12_book_166 ⟨v155, rfl, rfl, hS_s78, (zFr_t (zFr_t (zFr_t (zFr_t (zFr_u zFr_rf e_s1 ha (by decide)) hF_s63 (by decide)) hF_s64 (by decide)) hF_s66 (by decide)) hF_s78 (by decide)), (by omega)⟩
              · skip
                refine j_aload_n hx 0 dX12_book_60 rfl ?_
                have f166 := zf hS_s66 ha (k := 4) rfl
                refine g13_4 hx hG ha kf_RX12_143 rfl dX12_book_61 ?_
                refine j_istore_n hx [(3, .int (zI ((s66 a 4)))), (0, .ref a), (2, .int (zI v137))] dX12_book_64 (by decide) rfl ?_
                refine j_aload_n hx 1 dX12_book_65 rfl ?_
                refine j_iconst hx dX12_book_66 ?_
                refine j_sipush hx dX12_book_67 rfl ?_
                refine j_callV hx hG (c_X12_readNumber hst a 0 9999) lk_RX12_219 ha (by decide) rfl rfl rfl rfl [.int (zI 0), .int (zI 9999)] ⟨rfl, hG, hS_s66, ha, (by omega), (by omega)⟩ rfl rfl ⟨by decide, by decide⟩ ⟨by decide, by decide⟩ (k2 := 0) (n2 := 0) rfl rfl (Nat.le_of_ble_eq_true rfl) dX12_book_70 (kIM (fun v167 s86 hS_s86 hF_s86 q168 => ?_))
                refine j_istore hx [(4, .int (zI v167)), (3, .int (zI ((s66 a 4)))), (0, .ref a), (2, .int (zI v137))] dX12_book_73 (by decide) rfl ?_
                refine j_aload_n hx 2 dX12_book_75 rfl ?_
                refine j_callV hx hG (c_X12_fine hst a) lk_RX12_166 ha (by decide) rfl rfl rfl rfl [] ⟨rfl, hG, hS_s86, ha⟩ rfl rfl ⟨by decide, by decide⟩ ⟨by decide, by decide⟩ (k2 := 0) (n2 := 0) rfl rfl (Nat.le_of_ble_eq_true rfl) dX12_book_76 (kIP (fun v169 q170 => ?_))
                refine j_if_eq hx 94 dX12_book_79 rfl (by omega) (fun h171 => ?_) (fun h171 => ?_)
                · skip
                  refine j_aload_n hx 2 dX12_book_94 rfl ?_
                  refine j_iconst hx dX12_book_95 ?_
                  refine j_aload_n hx 2 dX12_book_96 rfl ?_
                  have f172 := zf hS_s86 ha (k := 24) rfl
                  refine g13_24 hx hG ha kf_RX12_189 rfl dX12_book_97 ?_
                  refine j_iconst hx dX12_book_100 ?_
                  refine j_isub hx (r := (s86 a 24) - 1) dX12_book_101 (by omega) ?_
                  refine j_callV hx hG (c_X12_readNumber hst a 0 ((s86 a 24) - 1)) lk_RX12_219 ha (by decide) rfl rfl rfl rfl [.int (zI 0), .int (zI ((s86 a 24) - 1))] ⟨rfl, hG, hS_s86, ha, (by omega), (by omega)⟩ rfl rfl ⟨by decide, by decide⟩ ⟨by decide, by decide⟩ (k2 := 0) (n2 := 0) rfl rfl (Nat.le_of_ble_eq_true rfl) dX12_book_102 (kIM (fun v173 s87 hS_s87 hF_s87 q174 => ?_))
                  refine j_istore hx [(5, .int (zI v173)), (4, .int (zI v167)), (3, .int (zI ((s66 a 4)))), (0, .ref a), (2, .int (zI v137))] dX12_book_105 (by decide) rfl ?_
                  refine j_aload_n hx 3 dX12_book_107 rfl ?_
                  refine j_bipush hx dX12_book_108 rfl ?_
                  refine j_callV hx hG (c_X12_sign hst a 59) lk_RX12_262 ha (by decide) rfl rfl rfl rfl [.int (zI 59)] ⟨rfl, hG, hS_s87, ha, (by omega)⟩ rfl rfl ⟨by decide, by decide⟩ ⟨by decide, by decide⟩ (k2 := 0) (n2 := 0) rfl rfl (Nat.le_of_ble_eq_true rfl) dX12_book_110 (kVM (fun s88 hS_s88 hF_s88 q176 => ?_))
                  refine j_aload_n hx 3 dX12_book_113 rfl ?_
                  refine j_callV hx hG (c_X12_fine hst a) lk_RX12_166 ha (by decide) rfl rfl rfl rfl [] ⟨rfl, hG, hS_s88, ha⟩ rfl rfl ⟨by decide, by decide⟩ ⟨by decide, by decide⟩ (k2 := 0) (n2 := 0) rfl rfl (Nat.le_of_ble_eq_true rfl) dX12_book_114 (kIP (fun v177 q178 => ?_))
                  refine j_if_ne hx 123 dX12_book_117 rfl (by omega) (fun h179 => ?_) (fun h179 => ?_)
                  · skip
                    refine j_aload_n hx 3 dX12_book_123 rfl ?_
                    refine g13_39 hx hG ha kf_RX12_89 dX12_book_124 ?_
                    refine j_iconst hx dX12_book_127 ?_
                    refine j_iload_n hx 4 dX12_book_128 rfl ?_
                    refine j_imul hx (r := 2 * v137) dX12_book_129 rfl ?_
                    refine j_norm (fun v180 f181 f182 f183 => ?_)
                    refine j_iload hx 1 dX12_book_130 rfl ?_
                    refine j_iast hx hG (zr (k := 39) (t2 := 96) hG ha rfl) (by decide) rfl (zlen hG (zr (k := 39) (t2 := 96) hG ha rfl) (n := 24) rfl rfl) (by omega) (by omega) (j := (v180).toNat) rfl dX12_book_132 ?_
                    obtain ⟨s89, e_s89⟩ : ∃ z, z = zU s88 (gP G a 39) (v180).toNat v167 := ⟨_, rfl⟩
                    rw [← e_s89]
                    have hS_s89 : zSK G s89 := by rw [e_s89]; exact zSK_A hS_s88 (zr (k := 39) (t2 := 96) hG ha rfl) rfl rfl rfl (by omega)
                    refine j_aload_n hx 3 dX12_book_133 rfl ?_
                    refine g13_39 hx hG ha kf_RX12_89 dX12_book_134 ?_
                    refine j_iconst hx dX12_book_137 ?_
                    refine j_iload_n hx 4 dX12_book_138 rfl ?_
                    refine j_imul hx (r := 2 * v137) dX12_book_139 rfl ?_
                    refine j_norm (fun v184 f185 f186 f187 => ?_)
                    refine j_iconst hx dX12_book_140 ?_
                    refine j_iadd hx (r := v184 + 1) dX12_book_141 rfl ?_
                    refine j_norm (fun v188 f189 f190 f191 => ?_)
                    refine j_iload hx 0 dX12_book_142 rfl ?_
                    refine j_iast hx hG (zr (k := 39) (t2 := 96) hG ha rfl) (by decide) rfl (zlen hG (zr (k := 39) (t2 := 96) hG ha rfl) (n := 24) rfl rfl) (by omega) (by omega) (j := (v188).toNat) rfl dX12_book_144 ?_
                    obtain ⟨s90, e_s90⟩ : ∃ z, z = zU s89 (gP G a 39) (v188).toNat v173 := ⟨_, rfl⟩
                    rw [← e_s90]
                    have hS_s90 : zSK G s90 := by rw [e_s90]; exact zSK_A hS_s89 (zr (k := 39) (t2 := 96) hG ha rfl) rfl rfl rfl (by omega)
                    refine j_iincN hx 4 (fun v192 => [(2, .int (zI v192)), (5, .int (zI v173)), (4, .int (zI v167)), (3, .int (zI ((s66 a 4)))), (0, .ref a)]) dX12_book_145 rfl (by decide) (fun _ => rfl) (fun v192 f193 f194 f195 => ?_)
                    refine j_goto hx 46 dX12_book_148 rfl ?_
                    exact j_sub [4, 0] [(0, .ref a), (2, .int (zI v192))] rfl (ih_c46_65 v192 s90 (by omega) (by omega) hS_s90 (zFr_u (zFr_u (zFr_t (zFr_t (zFr_t (zFr_t zFr_rf hF_s66 (by decide)) hF_s86 (by decide)) hF_s87 (by decide)) hF_s88 (by decide)) e_s89 (zr (k := 39) (t2 := 96) hG ha rfl) (by decide)) e_s90 (zr (k := 39) (t2 := 96) hG ha rfl) (by decide)))
                  · skip
                    refine j_goto hx 151 dX12_book_120 rfl ?_
                    refine j_aload_n hx 3 dX12_book_151 rfl ?_
                    refine j_iload_n hx 4 dX12_book_152 rfl ?_
                    refine j_callV hx hG (c_X12_result hst a v137) lk_RX12_265 ha (by decide) rfl rfl rfl rfl [.int (zI v137)] ⟨rfl, hG, hS_s88, ha, (by omega)⟩ rfl rfl ⟨by decide, by decide⟩ ⟨by decide, by decide⟩ (k2 := 0) (n2 := 0) rfl rfl (Nat.le_of_ble_eq_true rfl) dX12_book_153 (kIM (fun v196 s91 hS_s91 hF_s91 q197 => ?_))
                    refine j_istore_n hx [(3, .int (zI v196)), (5, .int (zI v173)), (4, .int (zI v167)), (0, .ref a), (2, .int (zI v137))] dX12_book_156 (by decide) rfl ?_
                    refine j_aload_n hx 3 dX12_book_157 rfl ?_
                    have f198 := zf hS_s91 ha (k := 5) rfl
                    refine g13_5 hx hG ha kf_RX12_137 rfl dX12_book_158 ?_
                    refine j_iconst hx dX12_book_161 ?_
                    refine j_icmp_eq hx 167 dX12_book_162 rfl (by omega) ⟨by decide, by decide⟩ (fun h199 => ?_) (fun h199 => ?_)
                    · skip
                      refine j_aload_n hx 3 dX12_book_167 rfl ?_
                      refine j_iload_n hx 4 dX12_book_168 rfl ?_
                      refine p13_41 hx hG ha kf_RX12_198 dX12_book_169 ?_
                      obtain ⟨s92, e_s92⟩ : ∃ z, z = zU s91 a 41 v137 := ⟨_, rfl⟩
                      rw [← e_s92]
                      have hS_s92 : zSK G s92 := by rw [e_s92]; exact zSK_F hS_s91 ha rfl rfl rfl (by omega)
                      refine j_iconst hx dX12_book_172 ?_
                      refine j_istore hx [(4, .int (zI 0)), (3, .int (zI v196)), (5, .int (zI v173)), (0, .ref a), (2, .int (zI v137))] dX12_book_173 (by decide) rfl ?_
                      have c175_93 : ∀ (m_c175_93 : Nat) (v200 : Int) (s94 : zS), 2147483648 - v200 < m_c175_93 → (0 ≤ v200 ∧ v200 ≤ 2147483647) → (zSK G s94) → (zFr [97] G s92 s94) → JJ X E 6 G s94 0 0 [(0, .ref a), (2, .int (zI v137)), (3, .int (zI v196)), (4, .int (zI v200))] 175 [] := by
                        intro m_c175_93
                        induction m_c175_93 with
                        | zero => intro v200 s94 hm_c175_93 f95 hS_s94 hF_s94; exfalso; omega
                        | succ m_c175_93 ih_c175_93 => 
                          intro v200 s94 hm_c175_93 f95 hS_s94 hF_s94
                          refine j_iload hx 3 dX12_book_175 rfl ?_
                          refine j_iconst hx dX12_book_177 ?_
                          refine j_iload_n hx 1 dX12_book_178 rfl ?_
                          refine j_imul hx (r := 2 * v137) dX12_book_179 rfl ?_
                          refine j_norm (fun v201 f202 f203 f204 => ?_)
                          refine j_icmp_ge hx 203 dX12_book_180 rfl (by omega) (by omega) (fun h205 => ?_) (fun h205 => ?_)
                          · skip
                            refine j_iload_n hx 2 dX12_book_203 rfl ?_
                            exact j_iret hx hq rfl (by decide) (by decide) dX12_book_204 ⟨v196, rfl, rfl, hS_s94, (zFr_t (zFr_u (zFr_t (zFr_t (zFr_t (zFr_t (zFr_t (zFr_t (zFr_t (zFr_u zFr_rf e_s1 ha (by decide)) hF_s63 (by decide)) hF_s64 (by decide)) hF_s66 (by decide)) hF_s86 (by decide)) hF_s87 (by decide)) hF_s88 (by decide)) hF_s91 (by decide)) e_s92 ha (by decide)) hF_s94 (by decide)), (by omega)⟩
                          · skip
                            refine j_aload_n hx 0 dX12_book_183 rfl ?_
                            refine g13_40 hx hG ha kf_RX12_92 dX12_book_184 ?_
                            refine j_iload hx 3 dX12_book_187 rfl ?_
                            refine j_aload_n hx 0 dX12_book_189 rfl ?_
                            refine g13_39 hx hG ha kf_RX12_89 dX12_book_190 ?_
                            refine j_iload hx 3 dX12_book_193 rfl ?_
                            have f206 := zaI (j := (v200).toNat) hS_s66 (zr (k := 39) (t2 := 96) hG ha rfl) rfl (zlen hG (zr (k := 39) (t2 := 96) hG ha rfl) (n := 24) rfl rfl) (show 0 ≤ v200 by omega) (by omega) rfl
                            refine j_iald hx hG (zr (k := 39) (t2 := 96) hG ha rfl) (by decide) rfl (zlen hG (zr (k := 39) (t2 := 96) hG ha rfl) (n := 24) rfl rfl) (by omega) (by omega) (j := (v200).toNat) rfl (v := (s66 (gP G a 39) (v200).toNat)) (by rw [(zFr_g hF_s94 (zr (k := 39) (t2 := 96) hG ha rfl) (by decide)), e_s92, zU_at (Or.inl (zne ha (zr (k := 39) (t2 := 96) hG ha rfl) (by decide))), (zFr_g hF_s91 (zr (k := 39) (t2 := 96) hG ha rfl) (by decide)), (zFr_g hF_s88 (zr (k := 39) (t2 := 96) hG ha rfl) (by decide)), (zFr_g hF_s87 (zr (k := 39) (t2 := 96) hG ha rfl) (by decide)), (zFr_g hF_s86 (zr (k := 39) (t2 := 96) hG ha rfl) (by decide))]) dX12_book_195 ?_
                            refine j_iast hx hG (zr (k := 40) (t2 := 97) hG ha rfl) (by decide) rfl (zlen hG (zr (k := 40) (t2 := 97) hG ha rfl) (n := 24) rfl rfl) (by omega) (by omega) (j := (v200).toNat) rfl dX12_book_196 ?_
                            obtain ⟨s98, e_s98⟩ : ∃ z, z = zU s94 (gP G a 40) (v200).toNat ((s66 (gP G a 39) (v200).toNat)) := ⟨_, rfl⟩
                            rw [← e_s98]
                            have hS_s98 : zSK G s98 := by rw [e_s98]; exact zSK_A hS_s94 (zr (k := 40) (t2 := 97) hG ha rfl) rfl rfl rfl (by omega)
                            refine j_iinc hx 3 [(4, .int (zI (v200 + 1))), (0, .ref a), (2, .int (zI v137)), (3, .int (zI v196))] dX12_book_197 rfl (by omega) (by decide) rfl ?_
                            refine j_goto hx 175 dX12_book_200 rfl ?_
                            exact j_sub [1, 2, 3, 0] [(0, .ref a), (2, .int (zI v137)), (3, .int (zI v196)), (4, .int (zI (v200 + 1)))] rfl (ih_c175_93 (v200 + 1) s98 (by omega) (by omega) hS_s98 (zFr_u (zFr_t zFr_rf hF_s94 (by decide)) e_s98 (zr (k := 40) (t2 := 97) hG ha rfl) (by decide)))
                      exact j_sub [3, 4, 1, 0] [(0, .ref a), (2, .int (zI v137)), (3, .int (zI v196)), (4, .int (zI 0))] rfl (c175_93 (2147483648 * 4) 0 s92 (by omega) (by omega) hS_s92 zFr_rf)
                    · skip
                      refine j_iload_n hx 0 dX12_book_165 rfl ?_
                      exact j_iret hx hq rfl (by decide) (by decide) dX12_book_166 ⟨v196, rfl, rfl, hS_s91, (zFr_t (zFr_t (zFr_t (zFr_t (zFr_t (zFr_t (zFr_t (zFr_u zFr_rf e_s1 ha (by decide)) hF_s63 (by decide)) hF_s64 (by decide)) hF_s66 (by decide)) hF_s86 (by decide)) hF_s87 (by decide)) hF_s88 (by decide)) hF_s91 (by decide)), (by omega)⟩
                · skip
                  refine j_iload_n hx 3 dX12_book_82 rfl ?_
                  refine j_bipush hx dX12_book_83 rfl ?_
                  refine j_icmp_ne hx 94 dX12_book_85 rfl (by omega) ⟨by decide, by decide⟩ (fun h207 => ?_) (fun h207 => ?_)
                  · skip
                    refine j_aload_n hx 2 dX12_book_94 rfl ?_
                    refine j_iconst hx dX12_book_95 ?_
                    refine j_aload_n hx 2 dX12_book_96 rfl ?_
                    have f208 := zf hS_s86 ha (k := 24) rfl
                    refine g13_24 hx hG ha kf_RX12_189 rfl dX12_book_97 ?_
                    refine j_iconst hx dX12_book_100 ?_
                    refine j_isub hx (r := (s86 a 24) - 1) dX12_book_101 (by omega) ?_
                    refine j_callV hx hG (c_X12_readNumber hst a 0 ((s86 a 24) - 1)) lk_RX12_219 ha (by decide) rfl rfl rfl rfl [.int (zI 0), .int (zI ((s86 a 24) - 1))] ⟨rfl, hG, hS_s86, ha, (by omega), (by omega)⟩ rfl rfl ⟨by decide, by decide⟩ ⟨by decide, by decide⟩ (k2 := 0) (n2 := 0) rfl rfl (Nat.le_of_ble_eq_true rfl) dX12_book_102 (kIM (fun v209 s99 hS_s99 hF_s99 q210 => ?_))
                    refine j_istore hx [(5, .int (zI v209)), (4, .int (zI v167)), (3, .int (zI ((s66 a 4)))), (0, .ref a), (2, .int (zI v137))] dX12_book_105 (by decide) rfl ?_
                    refine j_aload_n hx 3 dX12_book_107 rfl ?_
                    refine j_bipush hx dX12_book_108 rfl ?_
                    refine j_callV hx hG (c_X12_sign hst a 59) lk_RX12_262 ha (by decide) rfl rfl rfl rfl [.int (zI 59)] ⟨rfl, hG, hS_s99, ha, (by omega)⟩ rfl rfl ⟨by decide, by decide⟩ ⟨by decide, by decide⟩ (k2 := 0) (n2 := 0) rfl rfl (Nat.le_of_ble_eq_true rfl) dX12_book_110 (kVM (fun s100 hS_s100 hF_s100 q212 => ?_))
                    refine j_aload_n hx 3 dX12_book_113 rfl ?_
                    refine j_callV hx hG (c_X12_fine hst a) lk_RX12_166 ha (by decide) rfl rfl rfl rfl [] ⟨rfl, hG, hS_s100, ha⟩ rfl rfl ⟨by decide, by decide⟩ ⟨by decide, by decide⟩ (k2 := 0) (n2 := 0) rfl rfl (Nat.le_of_ble_eq_true rfl) dX12_book_114 (kIP (fun v213 q214 => ?_))
                    refine j_if_ne hx 123 dX12_book_117 rfl (by omega) (fun h215 => ?_) (fun h215 => ?_)
                    · skip
                      refine j_aload_n hx 3 dX12_book_123 rfl ?_
                      refine g13_39 hx hG ha kf_RX12_89 dX12_book_124 ?_
                      refine j_iconst hx dX12_book_127 ?_
                      refine j_iload_n hx 4 dX12_book_128 rfl ?_
                      refine j_imul hx (r := 2 * v137) dX12_book_129 rfl ?_
                      refine j_norm (fun v216 f217 f218 f219 => ?_)
                      refine j_iload hx 1 dX12_book_130 rfl ?_
                      refine j_iast hx hG (zr (k := 39) (t2 := 96) hG ha rfl) (by decide) rfl (zlen hG (zr (k := 39) (t2 := 96) hG ha rfl) (n := 24) rfl rfl) (by omega) (by omega) (j := (v216).toNat) rfl dX12_book_132 ?_
                      obtain ⟨s101, e_s101⟩ : ∃ z, z = zU s100 (gP G a 39) (v216).toNat v167 := ⟨_, rfl⟩
                      rw [← e_s101]
                      have hS_s101 : zSK G s101 := by rw [e_s101]; exact zSK_A hS_s100 (zr (k := 39) (t2 := 96) hG ha rfl) rfl rfl rfl (by omega)
                      refine j_aload_n hx 3 dX12_book_133 rfl ?_
                      refine g13_39 hx hG ha kf_RX12_89 dX12_book_134 ?_
                      refine j_iconst hx dX12_book_137 ?_
                      refine j_iload_n hx 4 dX12_book_138 rfl ?_
                      refine j_imul hx (r := 2 * v137) dX12_book_139 rfl ?_
                      refine j_norm (fun v220 f221 f222 f223 => ?_)
                      refine j_iconst hx dX12_book_140 ?_
                      refine j_iadd hx (r := v220 + 1) dX12_book_141 rfl ?_
                      refine j_norm (fun v224 f225 f226 f227 => ?_)
                      refine j_iload hx 0 dX12_book_142 rfl ?_
                      refine j_iast hx hG (zr (k := 39) (t2 := 96) hG ha rfl) (by decide) rfl (zlen hG (zr (k := 39) (t2 := 96) hG ha rfl) (n := 24) rfl rfl) (by omega) (by omega) (j := (v224).toNat) rfl dX12_book_144 ?_
                      obtain ⟨s102, e_s102⟩ : ∃ z, z = zU s101 (gP G a 39) (v224).toNat v209 := ⟨_, rfl⟩
                      rw [← e_s102]
                      have hS_s102 : zSK G s102 := by rw [e_s102]; exact zSK_A hS_s101 (zr (k := 39) (t2 := 96) hG ha rfl) rfl rfl rfl (by omega)
                      refine j_iincN hx 4 (fun v228 => [(2, .int (zI v228)), (5, .int (zI v209)), (4, .int (zI v167)), (3, .int (zI ((s66 a 4)))), (0, .ref a)]) dX12_book_145 rfl (by decide) (fun _ => rfl) (fun v228 f229 f230 f231 => ?_)
                      refine j_goto hx 46 dX12_book_148 rfl ?_
                      exact j_sub [4, 0] [(0, .ref a), (2, .int (zI v228))] rfl (ih_c46_65 v228 s102 (by omega) (by omega) hS_s102 (zFr_u (zFr_u (zFr_t (zFr_t (zFr_t (zFr_t zFr_rf hF_s66 (by decide)) hF_s86 (by decide)) hF_s99 (by decide)) hF_s100 (by decide)) e_s101 (zr (k := 39) (t2 := 96) hG ha rfl) (by decide)) e_s102 (zr (k := 39) (t2 := 96) hG ha rfl) (by decide)))
                    · skip
                      refine j_goto hx 151 dX12_book_120 rfl ?_
                      refine j_aload_n hx 3 dX12_book_151 rfl ?_
                      refine j_iload_n hx 4 dX12_book_152 rfl ?_
                      refine j_callV hx hG (c_X12_result hst a v137) lk_RX12_265 ha (by decide) rfl rfl rfl rfl [.int (zI v137)] ⟨rfl, hG, hS_s100, ha, (by omega)⟩ rfl rfl ⟨by decide, by decide⟩ ⟨by decide, by decide⟩ (k2 := 0) (n2 := 0) rfl rfl (Nat.le_of_ble_eq_true rfl) dX12_book_153 (kIM (fun v232 s103 hS_s103 hF_s103 q233 => ?_))
                      refine j_istore_n hx [(3, .int (zI v232)), (5, .int (zI v209)), (4, .int (zI v167)), (0, .ref a), (2, .int (zI v137))] dX12_book_156 (by decide) rfl ?_
                      refine j_aload_n hx 3 dX12_book_157 rfl ?_
                      have f234 := zf hS_s103 ha (k := 5) rfl
                      refine g13_5 hx hG ha kf_RX12_137 rfl dX12_book_158 ?_
                      refine j_iconst hx dX12_book_161 ?_
                      refine j_icmp_eq hx 167 dX12_book_162 rfl (by omega) ⟨by decide, by decide⟩ (fun h235 => ?_) (fun h235 => ?_)
                      · skip
                        refine j_aload_n hx 3 dX12_book_167 rfl ?_
                        refine j_iload_n hx 4 dX12_book_168 rfl ?_
                        refine p13_41 hx hG ha kf_RX12_198 dX12_book_169 ?_
                        obtain ⟨s104, e_s104⟩ : ∃ z, z = zU s103 a 41 v137 := ⟨_, rfl⟩
                        rw [← e_s104]
                        have hS_s104 : zSK G s104 := by rw [e_s104]; exact zSK_F hS_s103 ha rfl rfl rfl (by omega)
                        refine j_iconst hx dX12_book_172 ?_
                        refine j_istore hx [(4, .int (zI 0)), (3, .int (zI v232)), (5, .int (zI v209)), (0, .ref a), (2, .int (zI v137))] dX12_book_173 (by decide) rfl ?_
                        have c175_105 : ∀ (m_c175_105 : Nat) (v236 : Int) (s106 : zS), 2147483648 - v236 < m_c175_105 → (0 ≤ v236 ∧ v236 ≤ 2147483647) → (zSK G s106) → (zFr [97] G s104 s106) → JJ X E 6 G s106 0 0 [(0, .ref a), (2, .int (zI v137)), (3, .int (zI v232)), (4, .int (zI v236))] 175 [] := by
                          intro m_c175_105
                          induction m_c175_105 with
                          | zero => intro v236 s106 hm_c175_105 f107 hS_s106 hF_s106; exfalso; omega
                          | succ m_c175_105 ih_c175_105 => 
                            intro v236 s106 hm_c175_105 f107 hS_s106 hF_s106
                            refine j_iload hx 3 dX12_book_175 rfl ?_
                            refine j_iconst hx dX12_book_177 ?_
                            refine j_iload_n hx 1 dX12_book_178 rfl ?_
                            refine j_imul hx (r := 2 * v137) dX12_book_179 rfl ?_
                            refine j_norm (fun v237 f238 f239 f240 => ?_)
                            refine j_icmp_ge hx 203 dX12_book_180 rfl (by omega) (by omega) (fun h241 => ?_) (fun h241 => ?_)
                            · skip
                              refine j_iload_n hx 2 dX12_book_203 rfl ?_
                              exact j_iret hx hq rfl (by decide) (by decide) dX12_book_204 ⟨v232, rfl, rfl, hS_s106, (zFr_t (zFr_u (zFr_t (zFr_t (zFr_t (zFr_t (zFr_t (zFr_t (zFr_t (zFr_u zFr_rf e_s1 ha (by decide)) hF_s63 (by decide)) hF_s64 (by decide)) hF_s66 (by decide)) hF_s86 (by decide)) hF_s99 (by decide)) hF_s100 (by decide)) hF_s103 (by decide)) e_s104 ha (by decide)) hF_s106 (by decide)), (by omega)⟩
                            · skip
                              refine j_aload_n hx 0 dX12_book_183 rfl ?_
                              refine g13_40 hx hG ha kf_RX12_92 dX12_book_184 ?_
                              refine j_iload hx 3 dX12_book_187 rfl ?_
                              refine j_aload_n hx 0 dX12_book_189 rfl ?_
                              refine g13_39 hx hG ha kf_RX12_89 dX12_book_190 ?_
                              refine j_iload hx 3 dX12_book_193 rfl ?_
                              have f242 := zaI (j := (v236).toNat) hS_s66 (zr (k := 39) (t2 := 96) hG ha rfl) rfl (zlen hG (zr (k := 39) (t2 := 96) hG ha rfl) (n := 24) rfl rfl) (show 0 ≤ v236 by omega) (by omega) rfl
                              refine j_iald hx hG (zr (k := 39) (t2 := 96) hG ha rfl) (by decide) rfl (zlen hG (zr (k := 39) (t2 := 96) hG ha rfl) (n := 24) rfl rfl) (by omega) (by omega) (j := (v236).toNat) rfl (v := (s66 (gP G a 39) (v236).toNat)) (by rw [(zFr_g hF_s106 (zr (k := 39) (t2 := 96) hG ha rfl) (by decide)), e_s104, zU_at (Or.inl (zne ha (zr (k := 39) (t2 := 96) hG ha rfl) (by decide))), (zFr_g hF_s103 (zr (k := 39) (t2 := 96) hG ha rfl) (by decide)), (zFr_g hF_s100 (zr (k := 39) (t2 := 96) hG ha rfl) (by decide)), (zFr_g hF_s99 (zr (k := 39) (t2 := 96) hG ha rfl) (by decide)), (zFr_g hF_s86 (zr (k := 39) (t2 := 96) hG ha rfl) (by decide))]) dX12_book_195 ?_
                              refine j_iast hx hG (zr (k := 40) (t2 := 97) hG ha rfl) (by decide) rfl (zlen hG (zr (k := 40) (t2 := 97) hG ha rfl) (n := 24) rfl rfl) (by omega) (by omega) (j := (v236).toNat) rfl dX12_book_196 ?_
                              obtain ⟨s110, e_s110⟩ : ∃ z, z = zU s106 (gP G a 40) (v236).toNat ((s66 (gP G a 39) (v236).toNat)) := ⟨_, rfl⟩
                              rw [← e_s110]
                              have hS_s110 : zSK G s110 := by rw [e_s110]; exact zSK_A hS_s106 (zr (k := 40) (t2 := 97) hG ha rfl) rfl rfl rfl (by omega)
                              refine j_iinc hx 3 [(4, .int (zI (v236 + 1))), (0, .ref a), (2, .int (zI v137)), (3, .int (zI v232))] dX12_book_197 rfl (by omega) (by decide) rfl ?_
                              refine j_goto hx 175 dX12_book_200 rfl ?_
                              exact j_sub [1, 2, 3, 0] [(0, .ref a), (2, .int (zI v137)), (3, .int (zI v232)), (4, .int (zI (v236 + 1)))] rfl (ih_c175_105 (v236 + 1) s110 (by omega) (by omega) hS_s110 (zFr_u (zFr_t zFr_rf hF_s106 (by decide)) e_s110 (zr (k := 40) (t2 := 97) hG ha rfl) (by decide)))
                        exact j_sub [3, 4, 1, 0] [(0, .ref a), (2, .int (zI v137)), (3, .int (zI v232)), (4, .int (zI 0))] rfl (c175_105 (2147483648 * 4) 0 s104 (by omega) (by omega) hS_s104 zFr_rf)
                      · skip
                        refine j_iload_n hx 0 dX12_book_165 rfl ?_
                        exact j_iret hx hq rfl (by decide) (by decide) dX12_book_166 ⟨v232, rfl, rfl, hS_s103, (zFr_t (zFr_t (zFr_t (zFr_t (zFr_t (zFr_t (zFr_t (zFr_u zFr_rf e_s1 ha (by decide)) hF_s63 (by decide)) hF_s64 (by decide)) hF_s66 (by decide)) hF_s86 (by decide)) hF_s99 (by decide)) hF_s100 (by decide)) hF_s103 (by decide)), (by omega)⟩
                  · skip
                    refine j_aload_n hx 2 dX12_book_88 rfl ?_
                    refine j_iconst hx dX12_book_89 ?_
                    refine j_iload_n hx 1 dX12_book_90 rfl ?_
                    refine j_callV hx hG (c_X12_wrong hst a 3 ((s66 a 4))) lk_RX12_173 ha (by decide) rfl rfl rfl rfl [.int (zI 3), .int (zI ((s66 a 4)))] ⟨rfl, hG, hS_s86, ha, (by omega), (by omega)⟩ rfl rfl ⟨by decide, by decide⟩ ⟨by decide, by decide⟩ (k2 := 0) (n2 := 0) rfl rfl (Nat.le_of_ble_eq_true rfl) dX12_book_91 (kVM (fun s111 hS_s111 hF_s111 q244 => ?_))
                    refine j_aload_n hx 2 dX12_book_94 rfl ?_
                    refine j_iconst hx dX12_book_95 ?_
                    refine j_aload_n hx 2 dX12_book_96 rfl ?_
                    have f245 := zf hS_s111 ha (k := 24) rfl
                    refine g13_24 hx hG ha kf_RX12_189 rfl dX12_book_97 ?_
                    refine j_iconst hx dX12_book_100 ?_
                    refine j_isub hx (r := (s111 a 24) - 1) dX12_book_101 (by omega) ?_
                    refine j_callV hx hG (c_X12_readNumber hst a 0 ((s111 a 24) - 1)) lk_RX12_219 ha (by decide) rfl rfl rfl rfl [.int (zI 0), .int (zI ((s111 a 24) - 1))] ⟨rfl, hG, hS_s111, ha, (by omega), (by omega)⟩ rfl rfl ⟨by decide, by decide⟩ ⟨by decide, by decide⟩ (k2 := 0) (n2 := 0) rfl rfl (Nat.le_of_ble_eq_true rfl) dX12_book_102 (kIM (fun v246 s112 hS_s112 hF_s112 q247 => ?_))
                    refine j_istore hx [(5, .int (zI v246)), (4, .int (zI v167)), (3, .int (zI ((s66 a 4)))), (0, .ref a), (2, .int (zI v137))] dX12_book_105 (by decide) rfl ?_
                    refine j_aload_n hx 3 dX12_book_107 rfl ?_
                    refine j_bipush hx dX12_book_108 rfl ?_
                    refine j_callV hx hG (c_X12_sign hst a 59) lk_RX12_262 ha (by decide) rfl rfl rfl rfl [.int (zI 59)] ⟨rfl, hG, hS_s112, ha, (by omega)⟩ rfl rfl ⟨by decide, by decide⟩ ⟨by decide, by decide⟩ (k2 := 0) (n2 := 0) rfl rfl (Nat.le_of_ble_eq_true rfl) dX12_book_110 (kVM (fun s113 hS_s113 hF_s113 q249 => ?_))
                    refine j_aload_n hx 3 dX12_book_113 rfl ?_
                    refine j_callV hx hG (c_X12_fine hst a) lk_RX12_166 ha (by decide) rfl rfl rfl rfl [] ⟨rfl, hG, hS_s113, ha⟩ rfl rfl ⟨by decide, by decide⟩ ⟨by decide, by decide⟩ (k2 := 0) (n2 := 0) rfl rfl (Nat.le_of_ble_eq_true rfl) dX12_book_114 (kIP (fun v250 q251 => ?_))
                    refine j_if_ne hx 123 dX12_book_117 rfl (by omega) (fun h252 => ?_) (fun h252 => ?_)
                    · skip
                      refine j_aload_n hx 3 dX12_book_123 rfl ?_
                      refine g13_39 hx hG ha kf_RX12_89 dX12_book_124 ?_
                      refine j_iconst hx dX12_book_127 ?_
                      refine j_iload_n hx 4 dX12_book_128 rfl ?_
                      refine j_imul hx (r := 2 * v137) dX12_book_129 rfl ?_
                      refine j_iload hx 1 dX12_book_130 rfl ?_
                      refine j_iast hx hG (zr (k := 39) (t2 := 96) hG ha rfl) (by decide) rfl (zlen hG (zr (k := 39) (t2 := 96) hG ha rfl) (n := 24) rfl rfl) (by omega) (by omega) (j := (2 * v137).toNat) rfl dX12_book_132 ?_
                      obtain ⟨s114, e_s114⟩ : ∃ z, z = zU s113 (gP G a 39) (2 * v137).toNat v167 := ⟨_, rfl⟩
                      rw [← e_s114]
                      have hS_s114 : zSK G s114 := by rw [e_s114]; exact zSK_A hS_s113 (zr (k := 39) (t2 := 96) hG ha rfl) rfl rfl rfl (by omega)
                      refine j_aload_n hx 3 dX12_book_133 rfl ?_
                      refine g13_39 hx hG ha kf_RX12_89 dX12_book_134 ?_
                      refine j_iconst hx dX12_book_137 ?_
                      refine j_iload_n hx 4 dX12_book_138 rfl ?_
                      refine j_imul hx (r := 2 * v137) dX12_book_139 rfl ?_
                      refine j_iconst hx dX12_book_140 ?_
                      refine j_iadd hx (r := 2 * v137 + 1) dX12_book_141 (by omega) ?_
                      refine j_iload hx 0 dX12_book_142 rfl ?_
                      refine j_iast hx hG (zr (k := 39) (t2 := 96) hG ha rfl) (by decide) rfl (zlen hG (zr (k := 39) (t2 := 96) hG ha rfl) (n := 24) rfl rfl) (by omega) (by omega) (j := (2 * v137 + 1).toNat) rfl dX12_book_144 ?_
                      obtain ⟨s115, e_s115⟩ : ∃ z, z = zU s114 (gP G a 39) (2 * v137 + 1).toNat v246 := ⟨_, rfl⟩
                      rw [← e_s115]
                      have hS_s115 : zSK G s115 := by rw [e_s115]; exact zSK_A hS_s114 (zr (k := 39) (t2 := 96) hG ha rfl) rfl rfl rfl (by omega)
                      refine j_iinc hx 4 [(2, .int (zI (v137 + 1))), (5, .int (zI v246)), (4, .int (zI v167)), (3, .int (zI ((s66 a 4)))), (0, .ref a)] dX12_book_145 rfl (by omega) (by decide) rfl ?_
                      refine j_goto hx 46 dX12_book_148 rfl ?_
                      exact j_sub [4, 0] [(0, .ref a), (2, .int (zI (v137 + 1)))] rfl (ih_c46_65 (v137 + 1) s115 (by omega) (by omega) hS_s115 (zFr_u (zFr_u (zFr_t (zFr_t (zFr_t (zFr_t (zFr_t zFr_rf hF_s66 (by decide)) hF_s86 (by decide)) hF_s111 (by decide)) hF_s112 (by decide)) hF_s113 (by decide)) e_s114 (zr (k := 39) (t2 := 96) hG ha rfl) (by decide)) e_s115 (zr (k := 39) (t2 := 96) hG ha rfl) (by decide)))
                    · skip
                      refine j_goto hx 151 dX12_book_120 rfl ?_
                      refine j_aload_n hx 3 dX12_book_151 rfl ?_
                      refine j_iload_n hx 4 dX12_book_152 rfl ?_
                      refine j_callV hx hG (c_X12_result hst a v137) lk_RX12_265 ha (by decide) rfl rfl rfl rfl [.int (zI v137)] ⟨rfl, hG, hS_s113, ha, (by omega)⟩ rfl rfl ⟨by decide, by decide⟩ ⟨by decide, by decide⟩ (k2 := 0) (n2 := 0) rfl rfl (Nat.le_of_ble_eq_true rfl) dX12_book_153 (kIM (fun v253 s116 hS_s116 hF_s116 q254 => ?_))
                      refine j_istore_n hx [(3, .int (zI v253)), (5, .int (zI v246)), (4, .int (zI v167)), (0, .ref a), (2, .int (zI v137))] dX12_book_156 (by decide) rfl ?_
                      refine j_aload_n hx 3 dX12_book_157 rfl ?_
                      have f255 := zf hS_s116 ha (k := 5) rfl
                      refine g13_5 hx hG ha kf_RX12_137 rfl dX12_book_158 ?_
                      refine j_iconst hx dX12_book_161 ?_
                      refine j_icmp_eq hx 167 dX12_book_162 rfl (by omega) ⟨by decide, by decide⟩ (fun h256 => ?_) (fun h256 => ?_)
                      · skip
                        refine j_aload_n hx 3 dX12_book_167 rfl ?_
                        refine j_iload_n hx 4 dX12_book_168 rfl ?_
                        refine p13_41 hx hG ha kf_RX12_198 dX12_book_169 ?_
                        obtain ⟨s117, e_s117⟩ : ∃ z, z = zU s116 a 41 v137 := ⟨_, rfl⟩
                        rw [← e_s117]
                        have hS_s117 : zSK G s117 := by rw [e_s117]; exact zSK_F hS_s116 ha rfl rfl rfl (by omega)
                        refine j_iconst hx dX12_book_172 ?_
                        refine j_istore hx [(4, .int (zI 0)), (3, .int (zI v253)), (5, .int (zI v246)), (0, .ref a), (2, .int (zI v137))] dX12_book_173 (by decide) rfl ?_
                        have c175_118 : ∀ (m_c175_118 : Nat) (v257 : Int) (s119 : zS), 2147483648 - v257 < m_c175_118 → (0 ≤ v257 ∧ v257 ≤ 2147483647) → (zSK G s119) → (zFr [97] G s117 s119) → JJ X E 6 G s119 0 0 [(0, .ref a), (2, .int (zI v137)), (3, .int (zI v253)), (4, .int (zI v257))] 175 [] := by
                          intro m_c175_118
                          induction m_c175_118 with
                          | zero => intro v257 s119 hm_c175_118 f120 hS_s119 hF_s119; exfalso; omega
                          | succ m_c175_118 ih_c175_118 => 
                            intro v257 s119 hm_c175_118 f120 hS_s119 hF_s119
                            refine j_iload hx 3 dX12_book_175 rfl ?_
                            refine j_iconst hx dX12_book_177 ?_
                            refine j_iload_n hx 1 dX12_book_178 rfl ?_
                            refine j_imul hx (r := 2 * v137) dX12_book_179 rfl ?_
                            refine j_icmp_ge hx 203 dX12_book_180 rfl (by omega) (by omega) (fun h258 => ?_) (fun h258 => ?_)
                            · skip
                              refine j_iload_n hx 2 dX12_book_203 rfl ?_
                              exact j_iret hx hq rfl (by decide) (by decide) dX12_book_204 ⟨v253, rfl, rfl, hS_s119, (zFr_t (zFr_u (zFr_t (zFr_t (zFr_t (zFr_t (zFr_t (zFr_t (zFr_t (zFr_t (zFr_u zFr_rf e_s1 ha (by decide)) hF_s63 (by decide)) hF_s64 (by decide)) hF_s66 (by decide)) hF_s86 (by decide)) hF_s111 (by decide)) hF_s112 (by decide)) hF_s113 (by decide)) hF_s116 (by decide)) e_s117 ha (by decide)) hF_s119 (by decide)), (by omega)⟩
                            · skip
                              refine j_aload_n hx 0 dX12_book_183 rfl ?_
                              refine g13_40 hx hG ha kf_RX12_92 dX12_book_184 ?_
                              refine j_iload hx 3 dX12_book_187 rfl ?_
                              refine j_aload_n hx 0 dX12_book_189 rfl ?_
                              refine g13_39 hx hG ha kf_RX12_89 dX12_book_190 ?_
                              refine j_iload hx 3 dX12_book_193 rfl ?_
                              have f259 := zaI (j := (v257).toNat) hS_s66 (zr (k := 39) (t2 := 96) hG ha rfl) rfl (zlen hG (zr (k := 39) (t2 := 96) hG ha rfl) (n := 24) rfl rfl) (show 0 ≤ v257 by omega) (by omega) rfl
                              refine j_iald hx hG (zr (k := 39) (t2 := 96) hG ha rfl) (by decide) rfl (zlen hG (zr (k := 39) (t2 := 96) hG ha rfl) (n := 24) rfl rfl) (by omega) (by omega) (j := (v257).toNat) rfl (v := (s66 (gP G a 39) (v257).toNat)) (by rw [(zFr_g hF_s119 (zr (k := 39) (t2 := 96) hG ha rfl) (by decide)), e_s117, zU_at (Or.inl (zne ha (zr (k := 39) (t2 := 96) hG ha rfl) (by decide))), (zFr_g hF_s116 (zr (k := 39) (t2 := 96) hG ha rfl) (by decide)), (zFr_g hF_s113 (zr (k := 39) (t2 := 96) hG ha rfl) (by decide)), (zFr_g hF_s112 (zr (k := 39) (t2 := 96) hG ha rfl) (by decide)), (zFr_g hF_s111 (zr (k := 39) (t2 := 96) hG ha rfl) (by decide)), (zFr_g hF_s86 (zr (k := 39) (t2 := 96) hG ha rfl) (by decide))]) dX12_book_195 ?_
                              refine j_iast hx hG (zr (k := 40) (t2 := 97) hG ha rfl) (by decide) rfl (zlen hG (zr (k := 40) (t2 := 97) hG ha rfl) (n := 24) rfl rfl) (by omega) (by omega) (j := (v257).toNat) rfl dX12_book_196 ?_
                              obtain ⟨s123, e_s123⟩ : ∃ z, z = zU s119 (gP G a 40) (v257).toNat ((s66 (gP G a 39) (v257).toNat)) := ⟨_, rfl⟩
                              rw [← e_s123]
                              have hS_s123 : zSK G s123 := by rw [e_s123]; exact zSK_A hS_s119 (zr (k := 40) (t2 := 97) hG ha rfl) rfl rfl rfl (by omega)
                              refine j_iinc hx 3 [(4, .int (zI (v257 + 1))), (0, .ref a), (2, .int (zI v137)), (3, .int (zI v253))] dX12_book_197 rfl (by omega) (by decide) rfl ?_
                              refine j_goto hx 175 dX12_book_200 rfl ?_
                              exact j_sub [1, 2, 3, 0] [(0, .ref a), (2, .int (zI v137)), (3, .int (zI v253)), (4, .int (zI (v257 + 1)))] rfl (ih_c175_118 (v257 + 1) s123 (by omega) (by omega) hS_s123 (zFr_u (zFr_t zFr_rf hF_s119 (by decide)) e_s123 (zr (k := 40) (t2 := 97) hG ha rfl) (by decide)))
                        exact j_sub [3, 4, 1, 0] [(0, .ref a), (2, .int (zI v137)), (3, .int (zI v253)), (4, .int (zI 0))] rfl (c175_118 (2147483648 * 4) 0 s117 (by omega) (by omega) hS_s117 zFr_rf)
                      · skip
                        refine j_iload_n hx 0 dX12_book_165 rfl ?_
                        exact j_iret hx hq rfl (by decide) (by decide) dX12_book_166 ⟨v253, rfl, rfl, hS_s116, (zFr_t (zFr_t (zFr_t (zFr_t (zFr_t (zFr_t (zFr_t (zFr_t (zFr_u zFr_rf e_s1 ha (by decide)) hF_s63 (by decide)) hF_s64 (by decide)) hF_s66 (by decide)) hF_s86 (by decide)) hF_s111 (by decide)) hF_s112 (by decide)) hF_s113 (by decide)) hF_s116 (by decide)), (by omega)⟩
        exact j_sub [1, 0] [(0, .ref a), (2, .int (zI 0))] rfl (c46_65 (2147483648 * 4) 0 s64 (by omega) (by omega) hS_s64 zFr_rf)
      · skip
        refine j_iconst hx dX12_book_37 ?_
        exact j_iret hx hq rfl (by decide) (by decide) dX12_book_38 ⟨0, rfl, rfl, hS_s63, (zFr_t (zFr_u zFr_rf e_s1 ha (by decide)) hF_s63 (by decide)), (by omega)⟩
    · skip
      refine j_iload_n hx 1 dX12_book_18 rfl ?_
      refine j_bipush hx dX12_book_19 rfl ?_
      refine j_icmp_gt hx 28 dX12_book_21 rfl (by omega) ⟨by decide, by decide⟩ (fun h260 => absurd h260 (by omega)) (fun h260 => ?_)
      refine j_iconst hx dX12_book_24 ?_
      refine j_goto hx 29 dX12_book_25 rfl ?_
      refine j_iconst hx dX12_book_29 ?_
      refine j_iconst hx dX12_book_30 ?_
      refine j_callV hx hG (c_X12_may hst a 1 1 1) lk_RX12_240 ha (by decide) rfl rfl rfl rfl [.int (zI 1), .int (zI 1), .int (zI 1)] ⟨rfl, hG, hS_s1, ha, (by omega), (by omega), (by omega)⟩ rfl rfl ⟨by decide, by decide⟩ ⟨by decide, by decide⟩ (k2 := 0) (n2 := 0) rfl rfl (Nat.le_of_ble_eq_true rfl) dX12_book_31 (kIM (fun v261 s124 hS_s124 hF_s124 q262 => ?_))
      refine j_if_ne hx 39 dX12_book_34 rfl (by omega) (fun h263 => ?_) (fun h263 => ?_)
      · skip
        refine j_aload_n hx 0 dX12_book_39 rfl ?_
        refine j_iload_n hx 1 dX12_book_40 rfl ?_
        refine j_callV hx hG (c_X12_begins hst a x1) lk_RX12_244 ha (by decide) rfl rfl rfl rfl [.int (zI x1)] ⟨rfl, hG, hS_s124, ha, (by omega)⟩ rfl rfl ⟨by decide, by decide⟩ ⟨by decide, by decide⟩ (k2 := 0) (n2 := 0) rfl rfl (Nat.le_of_ble_eq_true rfl) dX12_book_41 (kVM (fun s125 hS_s125 hF_s125 q265 => ?_))
        refine j_iconst hx dX12_book_44 ?_
        refine j_istore_n hx [(2, .int (zI 0)), (0, .ref a), (1, .int (zI x1))] dX12_book_45 (by decide) rfl ?_
        have c46_126 : ∀ (m_c46_126 : Nat) (v266 : Int) (s127 : zS), 2147483648 - v266 < m_c46_126 → ((-2147483648) ≤ v266 ∧ v266 ≤ 2147483647) → (zSK G s127) → (zFr [13, 96] G s125 s127) → JJ X E 6 G s127 0 0 [(0, .ref a), (2, .int (zI v266))] 46 [] := by
          intro m_c46_126
          induction m_c46_126 with
          | zero => intro v266 s127 hm_c46_126 f128 hS_s127 hF_s127; exfalso; omega
          | succ m_c46_126 ih_c46_126 => 
            intro v266 s127 hm_c46_126 f128 hS_s127 hF_s127
            refine j_aload_n hx 0 dX12_book_46 rfl ?_
            refine j_callV hx hG (c_X12_fine hst a) lk_RX12_166 ha (by decide) rfl rfl rfl rfl [] ⟨rfl, hG, hS_s127, ha⟩ rfl rfl ⟨by decide, by decide⟩ ⟨by decide, by decide⟩ (k2 := 0) (n2 := 0) rfl rfl (Nat.le_of_ble_eq_true rfl) dX12_book_47 (kIP (fun v267 q268 => ?_))
            refine j_if_eq hx 151 dX12_book_50 rfl (by omega) (fun h269 => ?_) (fun h269 => ?_)
            · skip
              refine j_aload_n hx 0 dX12_book_151 rfl ?_
              refine j_iload_n hx 1 dX12_book_152 rfl ?_
              refine j_callV hx hG (c_X12_result hst a v266) lk_RX12_265 ha (by decide) rfl rfl rfl rfl [.int (zI v266)] ⟨rfl, hG, hS_s127, ha, (by omega)⟩ rfl rfl ⟨by decide, by decide⟩ ⟨by decide, by decide⟩ (k2 := 0) (n2 := 0) rfl rfl (Nat.le_of_ble_eq_true rfl) dX12_book_153 (kIM (fun v270 s131 hS_s131 hF_s131 q271 => ?_))
              refine j_istore_n hx [(3, .int (zI v270)), (0, .ref a), (2, .int (zI v266))] dX12_book_156 (by decide) rfl ?_
              refine j_aload_n hx 1 dX12_book_157 rfl ?_
              have f272 := zf hS_s131 ha (k := 5) rfl
              refine g13_5 hx hG ha kf_RX12_137 rfl dX12_book_158 ?_
              refine j_iconst hx dX12_book_161 ?_
              refine j_icmp_eq hx 167 dX12_book_162 rfl (by omega) ⟨by decide, by decide⟩ (fun h273 => ?_) (fun h273 => ?_)
              · skip
                refine j_aload_n hx 1 dX12_book_167 rfl ?_
                refine j_iload_n hx 2 dX12_book_168 rfl ?_
                refine p13_41 hx hG ha kf_RX12_198 dX12_book_169 ?_
                obtain ⟨s132, e_s132⟩ : ∃ z, z = zU s131 a 41 v266 := ⟨_, rfl⟩
                rw [← e_s132]
                have hS_s132 : zSK G s132 := by rw [e_s132]; exact zSK_F hS_s131 ha rfl rfl rfl (by omega)
                refine j_iconst hx dX12_book_172 ?_
                refine j_istore hx [(4, .int (zI 0)), (3, .int (zI v270)), (0, .ref a), (2, .int (zI v266))] dX12_book_173 (by decide) rfl ?_
                have c175_133 : ∀ (m_c175_133 : Nat) (v274 : Int) (s134 : zS), 2147483648 - v274 < m_c175_133 → (0 ≤ v274 ∧ v274 ≤ 2147483647) → (zSK G s134) → (zFr [97] G s132 s134) → JJ X E 6 G s134 0 0 [(0, .ref a), (2, .int (zI v266)), (3, .int (zI v270)), (4, .int (zI v274))] 175 [] := by
                  intro m_c175_133
                  induction m_c175_133 with
                  | zero => intro v274 s134 hm_c175_133 f135 hS_s134 hF_s134; exfalso; omega
                  | succ m_c175_133 ih_c175_133 => 
                    intro v274 s134 hm_c175_133 f135 hS_s134 hF_s134
                    refine j_iload hx 3 dX12_book_175 rfl ?_
                    refine j_iconst hx dX12_book_177 ?_
                    refine j_iload_n hx 1 dX12_book_178 rfl ?_
                    refine j_imul hx (r := 2 * v266) dX12_book_179 rfl ?_
                    refine j_norm (fun v275 f276 f277 f278 => ?_)
                    refine j_icmp_ge hx 203 dX12_book_180 rfl (by omega) (by omega) (fun h279 => ?_) (fun h279 => ?_)
                    · skip
                      refine j_iload_n hx 2 dX12_book_203 rfl ?_
                      exact j_iret hx hq rfl (by decide) (by decide) dX12_book_204 ⟨v270, rfl, rfl, hS_s134, (zFr_t (zFr_u (zFr_t (zFr_t (zFr_t (zFr_t (zFr_u zFr_rf e_s1 ha (by decide)) hF_s124 (by decide)) hF_s125 (by decide)) hF_s127 (by decide)) hF_s131 (by decide)) e_s132 ha (by decide)) hF_s134 (by decide)), (by omega)⟩
                    · skip
                      refine j_aload_n hx 0 dX12_book_183 rfl ?_
                      refine g13_40 hx hG ha kf_RX12_92 dX12_book_184 ?_
                      refine j_iload hx 3 dX12_book_187 rfl ?_
                      refine j_aload_n hx 0 dX12_book_189 rfl ?_
                      refine g13_39 hx hG ha kf_RX12_89 dX12_book_190 ?_
                      refine j_iload hx 3 dX12_book_193 rfl ?_
                      have f280 := zaI (j := (v274).toNat) hS_s127 (zr (k := 39) (t2 := 96) hG ha rfl) rfl (zlen hG (zr (k := 39) (t2 := 96) hG ha rfl) (n := 24) rfl rfl) (show 0 ≤ v274 by omega) (by omega) rfl
                      refine j_iald hx hG (zr (k := 39) (t2 := 96) hG ha rfl) (by decide) rfl (zlen hG (zr (k := 39) (t2 := 96) hG ha rfl) (n := 24) rfl rfl) (by omega) (by omega) (j := (v274).toNat) rfl (v := (s127 (gP G a 39) (v274).toNat)) (by rw [(zFr_g hF_s134 (zr (k := 39) (t2 := 96) hG ha rfl) (by decide)), e_s132, zU_at (Or.inl (zne ha (zr (k := 39) (t2 := 96) hG ha rfl) (by decide))), (zFr_g hF_s131 (zr (k := 39) (t2 := 96) hG ha rfl) (by decide))]) dX12_book_195 ?_
                      refine j_iast hx hG (zr (k := 40) (t2 := 97) hG ha rfl) (by decide) rfl (zlen hG (zr (k := 40) (t2 := 97) hG ha rfl) (n := 24) rfl rfl) (by omega) (by omega) (j := (v274).toNat) rfl dX12_book_196 ?_
                      obtain ⟨s138, e_s138⟩ : ∃ z, z = zU s134 (gP G a 40) (v274).toNat ((s127 (gP G a 39) (v274).toNat)) := ⟨_, rfl⟩
                      rw [← e_s138]
                      have hS_s138 : zSK G s138 := by rw [e_s138]; exact zSK_A hS_s134 (zr (k := 40) (t2 := 97) hG ha rfl) rfl rfl rfl (by omega)
                      refine j_iinc hx 3 [(4, .int (zI (v274 + 1))), (0, .ref a), (2, .int (zI v266)), (3, .int (zI v270))] dX12_book_197 rfl (by omega) (by decide) rfl ?_
                      refine j_goto hx 175 dX12_book_200 rfl ?_
                      exact j_sub [1, 2, 3, 0] [(0, .ref a), (2, .int (zI v266)), (3, .int (zI v270)), (4, .int (zI (v274 + 1)))] rfl (ih_c175_133 (v274 + 1) s138 (by omega) (by omega) hS_s138 (zFr_u (zFr_t zFr_rf hF_s134 (by decide)) e_s138 (zr (k := 40) (t2 := 97) hG ha rfl) (by decide)))
                exact j_sub [2, 3, 1, 0] [(0, .ref a), (2, .int (zI v266)), (3, .int (zI v270)), (4, .int (zI 0))] rfl (c175_133 (2147483648 * 4) 0 s132 (by omega) (by omega) hS_s132 zFr_rf)
              · skip
                refine j_iload_n hx 0 dX12_book_165 rfl ?_
                exact j_iret hx hq rfl (by decide) (by decide) dX12_book_166 ⟨v270, rfl, rfl, hS_s131, (zFr_t (zFr_t (zFr_t (zFr_t (zFr_u zFr_rf e_s1 ha (by decide)) hF_s124 (by decide)) hF_s125 (by decide)) hF_s127 (by decide)) hF_s131 (by decide)), (by omega)⟩
            · skip
              refine j_aload_n hx 0 dX12_book_53 rfl ?_
              refine j_callV hx hG (c_X12_isMore hst a) lk_RX12_247 ha (by decide) rfl rfl rfl rfl [] ⟨rfl, hG, hS_s127, ha⟩ rfl rfl ⟨by decide, by decide⟩ ⟨by decide, by decide⟩ (k2 := 0) (n2 := 0) rfl rfl (Nat.le_of_ble_eq_true rfl) dX12_book_54 (kIP (fun v281 q282 => ?_))
              refine j_if_eq hx 151 dX12_book_57 rfl (by omega) (fun h283 => ?_) (fun h283 => ?_)
              · skip
                refine j_aload_n hx 0 dX12_book_151 rfl ?_
                refine j_iload_n hx 1 dX12_book_152 rfl ?_
                refine j_callV hx hG (c_X12_result hst a v266) lk_RX12_265 ha (by decide) rfl rfl rfl rfl [.int (zI v266)] ⟨rfl, hG, hS_s127, ha, (by omega)⟩ rfl rfl ⟨by decide, by decide⟩ ⟨by decide, by decide⟩ (k2 := 0) (n2 := 0) rfl rfl (Nat.le_of_ble_eq_true rfl) dX12_book_153 (kIM (fun v284 s139 hS_s139 hF_s139 q285 => ?_))
                refine j_istore_n hx [(3, .int (zI v284)), (0, .ref a), (2, .int (zI v266))] dX12_book_156 (by decide) rfl ?_
                refine j_aload_n hx 1 dX12_book_157 rfl ?_
                have f286 := zf hS_s139 ha (k := 5) rfl
                refine g13_5 hx hG ha kf_RX12_137 rfl dX12_book_158 ?_
                refine j_iconst hx dX12_book_161 ?_
                refine j_icmp_eq hx 167 dX12_book_162 rfl (by omega) ⟨by decide, by decide⟩ (fun h287 => ?_) (fun h287 => ?_)
                · skip
                  refine j_aload_n hx 1 dX12_book_167 rfl ?_
                  refine j_iload_n hx 2 dX12_book_168 rfl ?_
                  refine p13_41 hx hG ha kf_RX12_198 dX12_book_169 ?_
                  obtain ⟨s140, e_s140⟩ : ∃ z, z = zU s139 a 41 v266 := ⟨_, rfl⟩
                  rw [← e_s140]
                  have hS_s140 : zSK G s140 := by rw [e_s140]; exact zSK_F hS_s139 ha rfl rfl rfl (by omega)
                  refine j_iconst hx dX12_book_172 ?_
                  refine j_istore hx [(4, .int (zI 0)), (3, .int (zI v284)), (0, .ref a), (2, .int (zI v266))] dX12_book_173 (by decide) rfl ?_
                  have c175_141 : ∀ (m_c175_141 : Nat) (v288 : Int) (s142 : zS), 2147483648 - v288 < m_c175_141 → (0 ≤ v288 ∧ v288 ≤ 2147483647) → (zSK G s142) → (zFr [97] G s140 s142) → JJ X E 6 G s142 0 0 [(0, .ref a), (2, .int (zI v266)), (3, .int (zI v284)), (4, .int (zI v288))] 175 [] := by
                    intro m_c175_141
                    induction m_c175_141 with
                    | zero => intro v288 s142 hm_c175_141 f143 hS_s142 hF_s142; exfalso; omega
                    | succ m_c175_141 ih_c175_141 => 
                      intro v288 s142 hm_c175_141 f143 hS_s142 hF_s142
                      refine j_iload hx 3 dX12_book_175 rfl ?_
                      refine j_iconst hx dX12_book_177 ?_
                      refine j_iload_n hx 1 dX12_book_178 rfl ?_
                      refine j_imul hx (r := 2 * v266) dX12_book_179 rfl ?_
                      refine j_norm (fun v289 f290 f291 f292 => ?_)
                      refine j_icmp_ge hx 203 dX12_book_180 rfl (by omega) (by omega) (fun h293 => ?_) (fun h293 => ?_)
                      · skip
                        refine j_iload_n hx 2 dX12_book_203 rfl ?_
                        exact j_iret hx hq rfl (by decide) (by decide) dX12_book_204 ⟨v284, rfl, rfl, hS_s142, (zFr_t (zFr_u (zFr_t (zFr_t (zFr_t (zFr_t (zFr_u zFr_rf e_s1 ha (by decide)) hF_s124 (by decide)) hF_s125 (by decide)) hF_s127 (by decide)) hF_s139 (by decide)) e_s140 ha (by decide)) hF_s142 (by decide)), (by omega)⟩
                      · skip
                        refine j_aload_n hx 0 dX12_book_183 rfl ?_
                        refine g13_40 hx hG ha kf_RX12_92 dX12_book_184 ?_
                        refine j_iload hx 3 dX12_book_187 rfl ?_
                        refine j_aload_n hx 0 dX12_book_189 rfl ?_
                        refine g13_39 hx hG ha kf_RX12_89 dX12_book_190 ?_
                        refine j_iload hx 3 dX12_book_193 rfl ?_
                        have f294 := zaI (j := (v288).toNat) hS_s127 (zr (k := 39) (t2 := 96) hG ha rfl) rfl (zlen hG (zr (k := 39) (t2 := 96) hG ha rfl) (n := 24) rfl rfl) (show 0 ≤ v288 by omega) (by omega) rfl
                        refine j_iald hx hG (zr (k := 39) (t2 := 96) hG ha rfl) (by decide) rfl (zlen hG (zr (k := 39) (t2 := 96) hG ha rfl) (n := 24) rfl rfl) (by omega) (by omega) (j := (v288).toNat) rfl (v := (s127 (gP G a 39) (v288).toNat)) (by rw [(zFr_g hF_s142 (zr (k := 39) (t2 := 96) hG ha rfl) (by decide)), e_s140, zU_at (Or.inl (zne ha (zr (k := 39) (t2 := 96) hG ha rfl) (by decide))), (zFr_g hF_s139 (zr (k := 39) (t2 := 96) hG ha rfl) (by decide))]) dX12_book_195 ?_
                        refine j_iast hx hG (zr (k := 40) (t2 := 97) hG ha rfl) (by decide) rfl (zlen hG (zr (k := 40) (t2 := 97) hG ha rfl) (n := 24) rfl rfl) (by omega) (by omega) (j := (v288).toNat) rfl dX12_book_196 ?_
                        obtain ⟨s146, e_s146⟩ : ∃ z, z = zU s142 (gP G a 40) (v288).toNat ((s127 (gP G a 39) (v288).toNat)) := ⟨_, rfl⟩
                        rw [← e_s146]
                        have hS_s146 : zSK G s146 := by rw [e_s146]; exact zSK_A hS_s142 (zr (k := 40) (t2 := 97) hG ha rfl) rfl rfl rfl (by omega)
                        refine j_iinc hx 3 [(4, .int (zI (v288 + 1))), (0, .ref a), (2, .int (zI v266)), (3, .int (zI v284))] dX12_book_197 rfl (by omega) (by decide) rfl ?_
                        refine j_goto hx 175 dX12_book_200 rfl ?_
                        exact j_sub [1, 2, 3, 0] [(0, .ref a), (2, .int (zI v266)), (3, .int (zI v284)), (4, .int (zI (v288 + 1)))] rfl (ih_c175_141 (v288 + 1) s146 (by omega) (by omega) hS_s146 (zFr_u (zFr_t zFr_rf hF_s142 (by decide)) e_s146 (zr (k := 40) (t2 := 97) hG ha rfl) (by decide)))
                  exact j_sub [2, 3, 1, 0] [(0, .ref a), (2, .int (zI v266)), (3, .int (zI v284)), (4, .int (zI 0))] rfl (c175_141 (2147483648 * 4) 0 s140 (by omega) (by omega) hS_s140 zFr_rf)
                · skip
                  refine j_iload_n hx 0 dX12_book_165 rfl ?_
                  exact j_iret hx hq rfl (by decide) (by decide) dX12_book_166 ⟨v284, rfl, rfl, hS_s139, (zFr_t (zFr_t (zFr_t (zFr_t (zFr_u zFr_rf e_s1 ha (by decide)) hF_s124 (by decide)) hF_s125 (by decide)) hF_s127 (by decide)) hF_s139 (by decide)), (by omega)⟩
              · skip
                refine j_aload_n hx 0 dX12_book_60 rfl ?_
                have f295 := zf hS_s127 ha (k := 4) rfl
                refine g13_4 hx hG ha kf_RX12_143 rfl dX12_book_61 ?_
                refine j_istore_n hx [(3, .int (zI ((s127 a 4)))), (0, .ref a), (2, .int (zI v266))] dX12_book_64 (by decide) rfl ?_
                refine j_aload_n hx 1 dX12_book_65 rfl ?_
                refine j_iconst hx dX12_book_66 ?_
                refine j_sipush hx dX12_book_67 rfl ?_
                refine j_callV hx hG (c_X12_readNumber hst a 0 9999) lk_RX12_219 ha (by decide) rfl rfl rfl rfl [.int (zI 0), .int (zI 9999)] ⟨rfl, hG, hS_s127, ha, (by omega), (by omega)⟩ rfl rfl ⟨by decide, by decide⟩ ⟨by decide, by decide⟩ (k2 := 0) (n2 := 0) rfl rfl (Nat.le_of_ble_eq_true rfl) dX12_book_70 (kIM (fun v296 s147 hS_s147 hF_s147 q297 => ?_))
                refine j_istore hx [(4, .int (zI v296)), (3, .int (zI ((s127 a 4)))), (0, .ref a), (2, .int (zI v266))] dX12_book_73 (by decide) rfl ?_
                refine j_aload_n hx 2 dX12_book_75 rfl ?_
                refine j_callV hx hG (c_X12_fine hst a) lk_RX12_166 ha (by decide) rfl rfl rfl rfl [] ⟨rfl, hG, hS_s147, ha⟩ rfl rfl ⟨by decide, by decide⟩ ⟨by decide, by decide⟩ (k2 := 0) (n2 := 0) rfl rfl (Nat.le_of_ble_eq_true rfl) dX12_book_76 (kIP (fun v298 q299 => ?_))
                refine j_if_eq hx 94 dX12_book_79 rfl (by omega) (fun h300 => ?_) (fun h300 => ?_)
                · skip
                  refine j_aload_n hx 2 dX12_book_94 rfl ?_
                  refine j_iconst hx dX12_book_95 ?_
                  refine j_aload_n hx 2 dX12_book_96 rfl ?_
                  have f301 := zf hS_s147 ha (k := 24) rfl
                  refine g13_24 hx hG ha kf_RX12_189 rfl dX12_book_97 ?_
                  refine j_iconst hx dX12_book_100 ?_
                  refine j_isub hx (r := (s147 a 24) - 1) dX12_book_101 (by omega) ?_
                  refine j_callV hx hG (c_X12_readNumber hst a 0 ((s147 a 24) - 1)) lk_RX12_219 ha (by decide) rfl rfl rfl rfl [.int (zI 0), .int (zI ((s147 a 24) - 1))] ⟨rfl, hG, hS_s147, ha, (by omega), (by omega)⟩ rfl rfl ⟨by decide, by decide⟩ ⟨by decide, by decide⟩ (k2 := 0) (n2 := 0) rfl rfl (Nat.le_of_ble_eq_true rfl) dX12_book_102 (kIM (fun v302 s148 hS_s148 hF_s148 q303 => ?_))
                  refine j_istore hx [(5, .int (zI v302)), (4, .int (zI v296)), (3, .int (zI ((s127 a 4)))), (0, .ref a), (2, .int (zI v266))] dX12_book_105 (by decide) rfl ?_
                  refine j_aload_n hx 3 dX12_book_107 rfl ?_
                  refine j_bipush hx dX12_book_108 rfl ?_
                  refine j_callV hx hG (c_X12_sign hst a 59) lk_RX12_262 ha (by decide) rfl rfl rfl rfl [.int (zI 59)] ⟨rfl, hG, hS_s148, ha, (by omega)⟩ rfl rfl ⟨by decide, by decide⟩ ⟨by decide, by decide⟩ (k2 := 0) (n2 := 0) rfl rfl (Nat.le_of_ble_eq_true rfl) dX12_book_110 (kVM (fun s149 hS_s149 hF_s149 q305 => ?_))
                  refine j_aload_n hx 3 dX12_book_113 rfl ?_
                  refine j_callV hx hG (c_X12_fine hst a) lk_RX12_166 ha (by decide) rfl rfl rfl rfl [] ⟨rfl, hG, hS_s149, ha⟩ rfl rfl ⟨by decide, by decide⟩ ⟨by decide, by decide⟩ (k2 := 0) (n2 := 0) rfl rfl (Nat.le_of_ble_eq_true rfl) dX12_book_114 (kIP (fun v306 q307 => ?_))
                  refine j_if_ne hx 123 dX12_book_117 rfl (by omega) (fun h308 => ?_) (fun h308 => ?_)
                  · skip
                    refine j_aload_n hx 3 dX12_book_123 rfl ?_
                    refine g13_39 hx hG ha kf_RX12_89 dX12_book_124 ?_
                    refine j_iconst hx dX12_book_127 ?_
                    refine j_iload_n hx 4 dX12_book_128 rfl ?_
                    refine j_imul hx (r := 2 * v266) dX12_book_129 rfl ?_
                    refine j_norm (fun v309 f310 f311 f312 => ?_)
                    refine j_iload hx 1 dX12_book_130 rfl ?_
                    refine j_iast hx hG (zr (k := 39) (t2 := 96) hG ha rfl) (by decide) rfl (zlen hG (zr (k := 39) (t2 := 96) hG ha rfl) (n := 24) rfl rfl) (by omega) (by omega) (j := (v309).toNat) rfl dX12_book_132 ?_
                    obtain ⟨s150, e_s150⟩ : ∃ z, z = zU s149 (gP G a 39) (v309).toNat v296 := ⟨_, rfl⟩
                    rw [← e_s150]
                    have hS_s150 : zSK G s150 := by rw [e_s150]; exact zSK_A hS_s149 (zr (k := 39) (t2 := 96) hG ha rfl) rfl rfl rfl (by omega)
                    refine j_aload_n hx 3 dX12_book_133 rfl ?_
                    refine g13_39 hx hG ha kf_RX12_89 dX12_book_134 ?_
                    refine j_iconst hx dX12_book_137 ?_
                    refine j_iload_n hx 4 dX12_book_138 rfl ?_
                    refine j_imul hx (r := 2 * v266) dX12_book_139 rfl ?_
                    refine j_norm (fun v313 f314 f315 f316 => ?_)
                    refine j_iconst hx dX12_book_140 ?_
                    refine j_iadd hx (r := v313 + 1) dX12_book_141 rfl ?_
                    refine j_norm (fun v317 f318 f319 f320 => ?_)
                    refine j_iload hx 0 dX12_book_142 rfl ?_
                    refine j_iast hx hG (zr (k := 39) (t2 := 96) hG ha rfl) (by decide) rfl (zlen hG (zr (k := 39) (t2 := 96) hG ha rfl) (n := 24) rfl rfl) (by omega) (by omega) (j := (v317).toNat) rfl dX12_book_144 ?_
                    obtain ⟨s151, e_s151⟩ : ∃ z, z = zU s150 (gP G a 39) (v317).toNat v302 := ⟨_, rfl⟩
                    rw [← e_s151]
                    have hS_s151 : zSK G s151 := by rw [e_s151]; exact zSK_A hS_s150 (zr (k := 39) (t2 := 96) hG ha rfl) rfl rfl rfl (by omega)
                    refine j_iincN hx 4 (fun v321 => [(2, .int (zI v321)), (5, .int (zI v302)), (4, .int (zI v296)), (3, .int (zI ((s127 a 4)))), (0, .ref a)]) dX12_book_145 rfl (by decide) (fun _ => rfl) (fun v321 f322 f323 f324 => ?_)
                    refine j_goto hx 46 dX12_book_148 rfl ?_
                    exact j_sub [4, 0] [(0, .ref a), (2, .int (zI v321))] rfl (ih_c46_126 v321 s151 (by omega) (by omega) hS_s151 (zFr_u (zFr_u (zFr_t (zFr_t (zFr_t (zFr_t zFr_rf hF_s127 (by decide)) hF_s147 (by decide)) hF_s148 (by decide)) hF_s149 (by decide)) e_s150 (zr (k := 39) (t2 := 96) hG ha rfl) (by decide)) e_s151 (zr (k := 39) (t2 := 96) hG ha rfl) (by decide)))
                  · skip
                    refine j_goto hx 151 dX12_book_120 rfl ?_
                    refine j_aload_n hx 3 dX12_book_151 rfl ?_
                    refine j_iload_n hx 4 dX12_book_152 rfl ?_
                    refine j_callV hx hG (c_X12_result hst a v266) lk_RX12_265 ha (by decide) rfl rfl rfl rfl [.int (zI v266)] ⟨rfl, hG, hS_s149, ha, (by omega)⟩ rfl rfl ⟨by decide, by decide⟩ ⟨by decide, by decide⟩ (k2 := 0) (n2 := 0) rfl rfl (Nat.le_of_ble_eq_true rfl) dX12_book_153 (kIM (fun v325 s152 hS_s152 hF_s152 q326 => ?_))
                    refine j_istore_n hx [(3, .int (zI v325)), (5, .int (zI v302)), (4, .int (zI v296)), (0, .ref a), (2, .int (zI v266))] dX12_book_156 (by decide) rfl ?_
                    refine j_aload_n hx 3 dX12_book_157 rfl ?_
                    have f327 := zf hS_s152 ha (k := 5) rfl
                    refine g13_5 hx hG ha kf_RX12_137 rfl dX12_book_158 ?_
                    refine j_iconst hx dX12_book_161 ?_
                    refine j_icmp_eq hx 167 dX12_book_162 rfl (by omega) ⟨by decide, by decide⟩ (fun h328 => ?_) (fun h328 => ?_)
                    · skip
                      refine j_aload_n hx 3 dX12_book_167 rfl ?_
                      refine j_iload_n hx 4 dX12_book_168 rfl ?_
                      refine p13_41 hx hG ha kf_RX12_198 dX12_book_169 ?_
                      obtain ⟨s153, e_s153⟩ : ∃ z, z = zU s152 a 41 v266 := ⟨_, rfl⟩
                      rw [← e_s153]
                      have hS_s153 : zSK G s153 := by rw [e_s153]; exact zSK_F hS_s152 ha rfl rfl rfl (by omega)
                      refine j_iconst hx dX12_book_172 ?_
                      refine j_istore hx [(4, .int (zI 0)), (3, .int (zI v325)), (5, .int (zI v302)), (0, .ref a), (2, .int (zI v266))] dX12_book_173 (by decide) rfl ?_
                      have c175_154 : ∀ (m_c175_154 : Nat) (v329 : Int) (s155 : zS), 2147483648 - v329 < m_c175_154 → (0 ≤ v329 ∧ v329 ≤ 2147483647) → (zSK G s155) → (zFr [97] G s153 s155) → JJ X E 6 G s155 0 0 [(0, .ref a), (2, .int (zI v266)), (3, .int (zI v325)), (4, .int (zI v329))] 175 [] := by
                        intro m_c175_154
                        induction m_c175_154 with
                        | zero => intro v329 s155 hm_c175_154 f156 hS_s155 hF_s155; exfalso; omega
                        | succ m_c175_154 ih_c175_154 => 
                          intro v329 s155 hm_c175_154 f156 hS_s155 hF_s155
                          refine j_iload hx 3 dX12_book_175 rfl ?_
                          refine j_iconst hx dX12_book_177 ?_
                          refine j_iload_n hx 1 dX12_book_178 rfl ?_
                          refine j_imul hx (r := 2 * v266) dX12_book_179 rfl ?_
                          refine j_norm (fun v330 f331 f332 f333 => ?_)
                          refine j_icmp_ge hx 203 dX12_book_180 rfl (by omega) (by omega) (fun h334 => ?_) (fun h334 => ?_)
                          · skip
                            refine j_iload_n hx 2 dX12_book_203 rfl ?_
                            exact j_iret hx hq rfl (by decide) (by decide) dX12_book_204 ⟨v325, rfl, rfl, hS_s155, (zFr_t (zFr_u (zFr_t (zFr_t (zFr_t (zFr_t (zFr_t (zFr_t (zFr_t (zFr_u zFr_rf e_s1 ha (by decide)) hF_s124 (by decide)) hF_s125 (by decide)) hF_s127 (by decide)) hF_s147 (by decide)) hF_s148 (by decide)) hF_s149 (by decide)) hF_s152 (by decide)) e_s153 ha (by decide)) hF_s155 (by decide)), (by omega)⟩
                          · skip
                            refine j_aload_n hx 0 dX12_book_183 rfl ?_
                            refine g13_40 hx hG ha kf_RX12_92 dX12_book_184 ?_
                            refine j_iload hx 3 dX12_book_187 rfl ?_
                            refine j_aload_n hx 0 dX12_book_189 rfl ?_
                            refine g13_39 hx hG ha kf_RX12_89 dX12_book_190 ?_
                            refine j_iload hx 3 dX12_book_193 rfl ?_
                            have f335 := zaI (j := (v329).toNat) hS_s127 (zr (k := 39) (t2 := 96) hG ha rfl) rfl (zlen hG (zr (k := 39) (t2 := 96) hG ha rfl) (n := 24) rfl rfl) (show 0 ≤ v329 by omega) (by omega) rfl
                            refine j_iald hx hG (zr (k := 39) (t2 := 96) hG ha rfl) (by decide) rfl (zlen hG (zr (k := 39) (t2 := 96) hG ha rfl) (n := 24) rfl rfl) (by omega) (by omega) (j := (v329).toNat) rfl (v := (s127 (gP G a 39) (v329).toNat)) (by rw [(zFr_g hF_s155 (zr (k := 39) (t2 := 96) hG ha rfl) (by decide)), e_s153, zU_at (Or.inl (zne ha (zr (k := 39) (t2 := 96) hG ha rfl) (by decide))), (zFr_g hF_s152 (zr (k := 39) (t2 := 96) hG ha rfl) (by decide)), (zFr_g hF_s149 (zr (k := 39) (t2 := 96) hG ha rfl) (by decide)), (zFr_g hF_s148 (zr (k := 39) (t2 := 96) hG ha rfl) (by decide)), (zFr_g hF_s147 (zr (k := 39) (t2 := 96) hG ha rfl) (by decide))]) dX12_book_195 ?_
                            refine j_iast hx hG (zr (k := 40) (t2 := 97) hG ha rfl) (by decide) rfl (zlen hG (zr (k := 40) (t2 := 97) hG ha rfl) (n := 24) rfl rfl) (by omega) (by omega) (j := (v329).toNat) rfl dX12_book_196 ?_
                            obtain ⟨s159, e_s159⟩ : ∃ z, z = zU s155 (gP G a 40) (v329).toNat ((s127 (gP G a 39) (v329).toNat)) := ⟨_, rfl⟩
                            rw [← e_s159]
                            have hS_s159 : zSK G s159 := by rw [e_s159]; exact zSK_A hS_s155 (zr (k := 40) (t2 := 97) hG ha rfl) rfl rfl rfl (by omega)
                            refine j_iinc hx 3 [(4, .int (zI (v329 + 1))), (0, .ref a), (2, .int (zI v266)), (3, .int (zI v325))] dX12_book_197 rfl (by omega) (by decide) rfl ?_
                            refine j_goto hx 175 dX12_book_200 rfl ?_
                            exact j_sub [1, 2, 3, 0] [(0, .ref a), (2, .int (zI v266)), (3, .int (zI v325)), (4, .int (zI (v329 + 1)))] rfl (ih_c175_154 (v329 + 1) s159 (by omega) (by omega) hS_s159 (zFr_u (zFr_t zFr_rf hF_s155 (by decide)) e_s159 (zr (k := 40) (t2 := 97) hG ha rfl) (by decide)))
                      exact j_sub [3, 4, 1, 0] [(0, .ref a), (2, .int (zI v266)), (3, .int (zI v325)), (4, .int (zI 0))] rfl (c175_154 (2147483648 * 4) 0 s153 (by omega) (by omega) hS_s153 zFr_rf)
                    · skip
                      refine j_iload_n hx 0 dX12_book_165 rfl ?_
                      exact j_iret hx hq rfl (by decide) (by decide) dX12_book_166 ⟨v325, rfl, rfl, hS_s152, (zFr_t (zFr_t (zFr_t (zFr_t (zFr_t (zFr_t (zFr_t (zFr_u zFr_rf e_s1 ha (by decide)) hF_s124 (by decide)) hF_s125 (by decide)) hF_s127 (by decide)) hF_s147 (by decide)) hF_s148 (by decide)) hF_s149 (by decide)) hF_s152 (by decide)), (by omega)⟩
                · skip
                  refine j_iload_n hx 3 dX12_book_82 rfl ?_
                  refine j_bipush hx dX12_book_83 rfl ?_
                  refine j_icmp_ne hx 94 dX12_book_85 rfl (by omega) ⟨by decide, by decide⟩ (fun h336 => ?_) (fun h336 => ?_)
                  · skip
                    refine j_aload_n hx 2 dX12_book_94 rfl ?_
                    refine j_iconst hx dX12_book_95 ?_
                    refine j_aload_n hx 2 dX12_book_96 rfl ?_
                    have f337 := zf hS_s147 ha (k := 24) rfl
                    refine g13_24 hx hG ha kf_RX12_189 rfl dX12_book_97 ?_
                    refine j_iconst hx dX12_book_100 ?_
                    refine j_isub hx (r := (s147 a 24) - 1) dX12_book_101 (by omega) ?_
                    refine j_callV hx hG (c_X12_readNumber hst a 0 ((s147 a 24) - 1)) lk_RX12_219 ha (by decide) rfl rfl rfl rfl [.int (zI 0), .int (zI ((s147 a 24) - 1))] ⟨rfl, hG, hS_s147, ha, (by omega), (by omega)⟩ rfl rfl ⟨by decide, by decide⟩ ⟨by decide, by decide⟩ (k2 := 0) (n2 := 0) rfl rfl (Nat.le_of_ble_eq_true rfl) dX12_book_102 (kIM (fun v338 s160 hS_s160 hF_s160 q339 => ?_))
                    refine j_istore hx [(5, .int (zI v338)), (4, .int (zI v296)), (3, .int (zI ((s127 a 4)))), (0, .ref a), (2, .int (zI v266))] dX12_book_105 (by decide) rfl ?_
                    refine j_aload_n hx 3 dX12_book_107 rfl ?_
                    refine j_bipush hx dX12_book_108 rfl ?_
                    refine j_callV hx hG (c_X12_sign hst a 59) lk_RX12_262 ha (by decide) rfl rfl rfl rfl [.int (zI 59)] ⟨rfl, hG, hS_s160, ha, (by omega)⟩ rfl rfl ⟨by decide, by decide⟩ ⟨by decide, by decide⟩ (k2 := 0) (n2 := 0) rfl rfl (Nat.le_of_ble_eq_true rfl) dX12_book_110 (kVM (fun s161 hS_s161 hF_s161 q341 => ?_))
                    refine j_aload_n hx 3 dX12_book_113 rfl ?_
                    refine j_callV hx hG (c_X12_fine hst a) lk_RX12_166 ha (by decide) rfl rfl rfl rfl [] ⟨rfl, hG, hS_s161, ha⟩ rfl rfl ⟨by decide, by decide⟩ ⟨by decide, by decide⟩ (k2 := 0) (n2 := 0) rfl rfl (Nat.le_of_ble_eq_true rfl) dX12_book_114 (kIP (fun v342 q343 => ?_))
                    refine j_if_ne hx 123 dX12_book_117 rfl (by omega) (fun h344 => ?_) (fun h344 => ?_)
                    · skip
                      refine j_aload_n hx 3 dX12_book_123 rfl ?_
                      refine g13_39 hx hG ha kf_RX12_89 dX12_book_124 ?_
                      refine j_iconst hx dX12_book_127 ?_
                      refine j_iload_n hx 4 dX12_book_128 rfl ?_
                      refine j_imul hx (r := 2 * v266) dX12_book_129 rfl ?_
                      refine j_norm (fun v345 f346 f347 f348 => ?_)
                      refine j_iload hx 1 dX12_book_130 rfl ?_
                      refine j_iast hx hG (zr (k := 39) (t2 := 96) hG ha rfl) (by decide) rfl (zlen hG (zr (k := 39) (t2 := 96) hG ha rfl) (n := 24) rfl rfl) (by omega) (by omega) (j := (v345).toNat) rfl dX12_book_132 ?_
                      obtain ⟨s162, e_s162⟩ : ∃ z, z = zU s161 (gP G a 39) (v345).toNat v296 := ⟨_, rfl⟩
                      rw [← e_s162]
                      have hS_s162 : zSK G s162 := by rw [e_s162]; exact zSK_A hS_s161 (zr (k := 39) (t2 := 96) hG ha rfl) rfl rfl rfl (by omega)
                      refine j_aload_n hx 3 dX12_book_133 rfl ?_
                      refine g13_39 hx hG ha kf_RX12_89 dX12_book_134 ?_
                      refine j_iconst hx dX12_book_137 ?_
                      refine j_iload_n hx 4 dX12_book_138 rfl ?_
                      refine j_imul hx (r := 2 * v266) dX12_book_139 rfl ?_
                      refine j_norm (fun v349 f350 f351 f352 => ?_)
                      refine j_iconst hx dX12_book_140 ?_
                      refine j_iadd hx (r := v349 + 1) dX12_book_141 rfl ?_
                      refine j_norm (fun v353 f354 f355 f356 => ?_)
                      refine j_iload hx 0 dX12_book_142 rfl ?_
                      refine j_iast hx hG (zr (k := 39) (t2 := 96) hG ha rfl) (by decide) rfl (zlen hG (zr (k := 39) (t2 := 96) hG ha rfl) (n := 24) rfl rfl) (by omega) (by omega) (j := (v353).toNat) rfl dX12_book_144 ?_
                      obtain ⟨s163, e_s163⟩ : ∃ z, z = zU s162 (gP G a 39) (v353).toNat v338 := ⟨_, rfl⟩
                      rw [← e_s163]
                      have hS_s163 : zSK G s163 := by rw [e_s163]; exact zSK_A hS_s162 (zr (k := 39) (t2 := 96) hG ha rfl) rfl rfl rfl (by omega)
                      refine j_iincN hx 4 (fun v357 => [(2, .int (zI v357)), (5, .int (zI v338)), (4, .int (zI v296)), (3, .int (zI ((s127 a 4)))), (0, .ref a)]) dX12_book_145 rfl (by decide) (fun _ => rfl) (fun v357 f358 f359 f360 => ?_)
                      refine j_goto hx 46 dX12_book_148 rfl ?_
                      exact j_sub [4, 0] [(0, .ref a), (2, .int (zI v357))] rfl (ih_c46_126 v357 s163 (by omega) (by omega) hS_s163 (zFr_u (zFr_u (zFr_t (zFr_t (zFr_t (zFr_t zFr_rf hF_s127 (by decide)) hF_s147 (by decide)) hF_s160 (by decide)) hF_s161 (by decide)) e_s162 (zr (k := 39) (t2 := 96) hG ha rfl) (by decide)) e_s163 (zr (k := 39) (t2 := 96) hG ha rfl) (by decide)))
                    · skip
                      refine j_goto hx 151 dX12_book_120 rfl ?_
                      refine j_aload_n hx 3 dX12_book_151 rfl ?_
                      refine j_iload_n hx 4 dX12_book_152 rfl ?_
                      refine j_callV hx hG (c_X12_result hst a v266) lk_RX12_265 ha (by decide) rfl rfl rfl rfl [.int (zI v266)] ⟨rfl, hG, hS_s161, ha, (by omega)⟩ rfl rfl ⟨by decide, by decide⟩ ⟨by decide, by decide⟩ (k2 := 0) (n2 := 0) rfl rfl (Nat.le_of_ble_eq_true rfl) dX12_book_153 (kIM (fun v361 s164 hS_s164 hF_s164 q362 => ?_))
                      refine j_istore_n hx [(3, .int (zI v361)), (5, .int (zI v338)), (4, .int (zI v296)), (0, .ref a), (2, .int (zI v266))] dX12_book_156 (by decide) rfl ?_
                      refine j_aload_n hx 3 dX12_book_157 rfl ?_
                      have f363 := zf hS_s164 ha (k := 5) rfl
                      refine g13_5 hx hG ha kf_RX12_137 rfl dX12_book_158 ?_
                      refine j_iconst hx dX12_book_161 ?_
                      refine j_icmp_eq hx 167 dX12_book_162 rfl (by omega) ⟨by decide, by decide⟩ (fun h364 => ?_) (fun h364 => ?_)
                      · skip
                        refine j_aload_n hx 3 dX12_book_167 rfl ?_
                        refine j_iload_n hx 4 dX12_book_168 rfl ?_
                        refine p13_41 hx hG ha kf_RX12_198 dX12_book_169 ?_
                        obtain ⟨s165, e_s165⟩ : ∃ z, z = zU s164 a 41 v266 := ⟨_, rfl⟩
                        rw [← e_s165]
                        have hS_s165 : zSK G s165 := by rw [e_s165]; exact zSK_F hS_s164 ha rfl rfl rfl (by omega)
                        refine j_iconst hx dX12_book_172 ?_
                        refine j_istore hx [(4, .int (zI 0)), (3, .int (zI v361)), (5, .int (zI v338)), (0, .ref a), (2, .int (zI v266))] dX12_book_173 (by decide) rfl ?_
                        have c175_166 : ∀ (m_c175_166 : Nat) (v365 : Int) (s167 : zS), 2147483648 - v365 < m_c175_166 → (0 ≤ v365 ∧ v365 ≤ 2147483647) → (zSK G s167) → (zFr [97] G s165 s167) → JJ X E 6 G s167 0 0 [(0, .ref a), (2, .int (zI v266)), (3, .int (zI v361)), (4, .int (zI v365))] 175 [] := by
                          intro m_c175_166
                          induction m_c175_166 with
                          | zero => intro v365 s167 hm_c175_166 f168 hS_s167 hF_s167; exfalso; omega
                          | succ m_c175_166 ih_c175_166 => 
                            intro v365 s167 hm_c175_166 f168 hS_s167 hF_s167
                            refine j_iload hx 3 dX12_book_175 rfl ?_
                            refine j_iconst hx dX12_book_177 ?_
                            refine j_iload_n hx 1 dX12_book_178 rfl ?_
                            refine j_imul hx (r := 2 * v266) dX12_book_179 rfl ?_
                            refine j_norm (fun v366 f367 f368 f369 => ?_)
                            refine j_icmp_ge hx 203 dX12_book_180 rfl (by omega) (by omega) (fun h370 => ?_) (fun h370 => ?_)
                            · skip
                              refine j_iload_n hx 2 dX12_book_203 rfl ?_
                              exact j_iret hx hq rfl (by decide) (by decide) dX12_book_204 ⟨v361, rfl, rfl, hS_s167, (zFr_t (zFr_u (zFr_t (zFr_t (zFr_t (zFr_t (zFr_t (zFr_t (zFr_t (zFr_u zFr_rf e_s1 ha (by decide)) hF_s124 (by decide)) hF_s125 (by decide)) hF_s127 (by decide)) hF_s147 (by decide)) hF_s160 (by decide)) hF_s161 (by decide)) hF_s164 (by decide)) e_s165 ha (by decide)) hF_s167 (by decide)), (by omega)⟩
                            · skip
                              refine j_aload_n hx 0 dX12_book_183 rfl ?_
                              refine g13_40 hx hG ha kf_RX12_92 dX12_book_184 ?_
                              refine j_iload hx 3 dX12_book_187 rfl ?_
                              refine j_aload_n hx 0 dX12_book_189 rfl ?_
                              refine g13_39 hx hG ha kf_RX12_89 dX12_book_190 ?_
                              refine j_iload hx 3 dX12_book_193 rfl ?_
                              have f371 := zaI (j := (v365).toNat) hS_s127 (zr (k := 39) (t2 := 96) hG ha rfl) rfl (zlen hG (zr (k := 39) (t2 := 96) hG ha rfl) (n := 24) rfl rfl) (show 0 ≤ v365 by omega) (by omega) rfl
                              refine j_iald hx hG (zr (k := 39) (t2 := 96) hG ha rfl) (by decide) rfl (zlen hG (zr (k := 39) (t2 := 96) hG ha rfl) (n := 24) rfl rfl) (by omega) (by omega) (j := (v365).toNat) rfl (v := (s127 (gP G a 39) (v365).toNat)) (by rw [(zFr_g hF_s167 (zr (k := 39) (t2 := 96) hG ha rfl) (by decide)), e_s165, zU_at (Or.inl (zne ha (zr (k := 39) (t2 := 96) hG ha rfl) (by decide))), (zFr_g hF_s164 (zr (k := 39) (t2 := 96) hG ha rfl) (by decide)), (zFr_g hF_s161 (zr (k := 39) (t2 := 96) hG ha rfl) (by decide)), (zFr_g hF_s160 (zr (k := 39) (t2 := 96) hG ha rfl) (by decide)), (zFr_g hF_s147 (zr (k := 39) (t2 := 96) hG ha rfl) (by decide))]) dX12_book_195 ?_
                              refine j_iast hx hG (zr (k := 40) (t2 := 97) hG ha rfl) (by decide) rfl (zlen hG (zr (k := 40) (t2 := 97) hG ha rfl) (n := 24) rfl rfl) (by omega) (by omega) (j := (v365).toNat) rfl dX12_book_196 ?_
                              obtain ⟨s171, e_s171⟩ : ∃ z, z = zU s167 (gP G a 40) (v365).toNat ((s127 (gP G a 39) (v365).toNat)) := ⟨_, rfl⟩
                              rw [← e_s171]
                              have hS_s171 : zSK G s171 := by rw [e_s171]; exact zSK_A hS_s167 (zr (k := 40) (t2 := 97) hG ha rfl) rfl rfl rfl (by omega)
                              refine j_iinc hx 3 [(4, .int (zI (v365 + 1))), (0, .ref a), (2, .int (zI v266)), (3, .int (zI v361))] dX12_book_197 rfl (by omega) (by decide) rfl ?_
                              refine j_goto hx 175 dX12_book_200 rfl ?_
                              exact j_sub [1, 2, 3, 0] [(0, .ref a), (2, .int (zI v266)), (3, .int (zI v361)), (4, .int (zI (v365 + 1)))] rfl (ih_c175_166 (v365 + 1) s171 (by omega) (by omega) hS_s171 (zFr_u (zFr_t zFr_rf hF_s167 (by decide)) e_s171 (zr (k := 40) (t2 := 97) hG ha rfl) (by decide)))
                        exact j_sub [3, 4, 1, 0] [(0, .ref a), (2, .int (zI v266)), (3, .int (zI v361)), (4, .int (zI 0))] rfl (c175_166 (2147483648 * 4) 0 s165 (by omega) (by omega) hS_s165 zFr_rf)
                      · skip
                        refine j_iload_n hx 0 dX12_book_165 rfl ?_
                        exact j_iret hx hq rfl (by decide) (by decide) dX12_book_166 ⟨v361, rfl, rfl, hS_s164, (zFr_t (zFr_t (zFr_t (zFr_t (zFr_t (zFr_t (zFr_t (zFr_u zFr_rf e_s1 ha (by decide)) hF_s124 (by decide)) hF_s125 (by decide)) hF_s127 (by decide)) hF_s147 (by decide)) hF_s160 (by decide)) hF_s161 (by decide)) hF_s164 (by decide)), (by omega)⟩
                  · skip
                    refine j_aload_n hx 2 dX12_book_88 rfl ?_
                    refine j_iconst hx dX12_book_89 ?_
                    refine j_iload_n hx 1 dX12_book_90 rfl ?_
                    refine j_callV hx hG (c_X12_wrong hst a 3 ((s127 a 4))) lk_RX12_173 ha (by decide) rfl rfl rfl rfl [.int (zI 3), .int (zI ((s127 a 4)))] ⟨rfl, hG, hS_s147, ha, (by omega), (by omega)⟩ rfl rfl ⟨by decide, by decide⟩ ⟨by decide, by decide⟩ (k2 := 0) (n2 := 0) rfl rfl (Nat.le_of_ble_eq_true rfl) dX12_book_91 (kVM (fun s172 hS_s172 hF_s172 q373 => ?_))
                    refine j_aload_n hx 2 dX12_book_94 rfl ?_
                    refine j_iconst hx dX12_book_95 ?_
                    refine j_aload_n hx 2 dX12_book_96 rfl ?_
                    have f374 := zf hS_s172 ha (k := 24) rfl
                    refine g13_24 hx hG ha kf_RX12_189 rfl dX12_book_97 ?_
                    refine j_iconst hx dX12_book_100 ?_
                    refine j_isub hx (r := (s172 a 24) - 1) dX12_book_101 (by omega) ?_
                    refine j_callV hx hG (c_X12_readNumber hst a 0 ((s172 a 24) - 1)) lk_RX12_219 ha (by decide) rfl rfl rfl rfl [.int (zI 0), .int (zI ((s172 a 24) - 1))] ⟨rfl, hG, hS_s172, ha, (by omega), (by omega)⟩ rfl rfl ⟨by decide, by decide⟩ ⟨by decide, by decide⟩ (k2 := 0) (n2 := 0) rfl rfl (Nat.le_of_ble_eq_true rfl) dX12_book_102 (kIM (fun v375 s173 hS_s173 hF_s173 q376 => ?_))
                    refine j_istore hx [(5, .int (zI v375)), (4, .int (zI v296)), (3, .int (zI ((s127 a 4)))), (0, .ref a), (2, .int (zI v266))] dX12_book_105 (by decide) rfl ?_
                    refine j_aload_n hx 3 dX12_book_107 rfl ?_
                    refine j_bipush hx dX12_book_108 rfl ?_
                    refine j_callV hx hG (c_X12_sign hst a 59) lk_RX12_262 ha (by decide) rfl rfl rfl rfl [.int (zI 59)] ⟨rfl, hG, hS_s173, ha, (by omega)⟩ rfl rfl ⟨by decide, by decide⟩ ⟨by decide, by decide⟩ (k2 := 0) (n2 := 0) rfl rfl (Nat.le_of_ble_eq_true rfl) dX12_book_110 (kVM (fun s174 hS_s174 hF_s174 q378 => ?_))
                    refine j_aload_n hx 3 dX12_book_113 rfl ?_
                    refine j_callV hx hG (c_X12_fine hst a) lk_RX12_166 ha (by decide) rfl rfl rfl rfl [] ⟨rfl, hG, hS_s174, ha⟩ rfl rfl ⟨by decide, by decide⟩ ⟨by decide, by decide⟩ (k2 := 0) (n2 := 0) rfl rfl (Nat.le_of_ble_eq_true rfl) dX12_book_114 (kIP (fun v379 q380 => ?_))
                    refine j_if_ne hx 123 dX12_book_117 rfl (by omega) (fun h381 => ?_) (fun h381 => ?_)
                    · skip
                      refine j_aload_n hx 3 dX12_book_123 rfl ?_
                      refine g13_39 hx hG ha kf_RX12_89 dX12_book_124 ?_
                      refine j_iconst hx dX12_book_127 ?_
                      refine j_iload_n hx 4 dX12_book_128 rfl ?_
                      refine j_imul hx (r := 2 * v266) dX12_book_129 rfl ?_
                      refine j_iload hx 1 dX12_book_130 rfl ?_
                      refine j_iast hx hG (zr (k := 39) (t2 := 96) hG ha rfl) (by decide) rfl (zlen hG (zr (k := 39) (t2 := 96) hG ha rfl) (n := 24) rfl rfl) (by omega) (by omega) (j := (2 * v266).toNat) rfl dX12_book_132 ?_
                      obtain ⟨s175, e_s175⟩ : ∃ z, z = zU s174 (gP G a 39) (2 * v266).toNat v296 := ⟨_, rfl⟩
                      rw [← e_s175]
                      have hS_s175 : zSK G s175 := by rw [e_s175]; exact zSK_A hS_s174 (zr (k := 39) (t2 := 96) hG ha rfl) rfl rfl rfl (by omega)
                      refine j_aload_n hx 3 dX12_book_133 rfl ?_
                      refine g13_39 hx hG ha kf_RX12_89 dX12_book_134 ?_
                      refine j_iconst hx dX12_book_137 ?_
                      refine j_iload_n hx 4 dX12_book_138 rfl ?_
                      refine j_imul hx (r := 2 * v266) dX12_book_139 rfl ?_
                      refine j_iconst hx dX12_book_140 ?_
                      refine j_iadd hx (r := 2 * v266 + 1) dX12_book_141 (by omega) ?_
                      refine j_iload hx 0 dX12_book_142 rfl ?_
                      refine j_iast hx hG (zr (k := 39) (t2 := 96) hG ha rfl) (by decide) rfl (zlen hG (zr (k := 39) (t2 := 96) hG ha rfl) (n := 24) rfl rfl) (by omega) (by omega) (j := (2 * v266 + 1).toNat) rfl dX12_book_144 ?_
                      obtain ⟨s176, e_s176⟩ : ∃ z, z = zU s175 (gP G a 39) (2 * v266 + 1).toNat v375 := ⟨_, rfl⟩
                      rw [← e_s176]
                      have hS_s176 : zSK G s176 := by rw [e_s176]; exact zSK_A hS_s175 (zr (k := 39) (t2 := 96) hG ha rfl) rfl rfl rfl (by omega)
                      refine j_iinc hx 4 [(2, .int (zI (v266 + 1))), (5, .int (zI v375)), (4, .int (zI v296)), (3, .int (zI ((s127 a 4)))), (0, .ref a)] dX12_book_145 rfl (by omega) (by decide) rfl ?_
                      refine j_goto hx 46 dX12_book_148 rfl ?_
                      exact j_sub [4, 0] [(0, .ref a), (2, .int (zI (v266 + 1)))] rfl (ih_c46_126 (v266 + 1) s176 (by omega) (by omega) hS_s176 (zFr_u (zFr_u (zFr_t (zFr_t (zFr_t (zFr_t (zFr_t zFr_rf hF_s127 (by decide)) hF_s147 (by decide)) hF_s172 (by decide)) hF_s173 (by decide)) hF_s174 (by decide)) e_s175 (zr (k := 39) (t2 := 96) hG ha rfl) (by decide)) e_s176 (zr (k := 39) (t2 := 96) hG ha rfl) (by decide)))
                    · skip
                      refine j_goto hx 151 dX12_book_120 rfl ?_
                      refine j_aload_n hx 3 dX12_book_151 rfl ?_
                      refine j_iload_n hx 4 dX12_book_152 rfl ?_
                      refine j_callV hx hG (c_X12_result hst a v266) lk_RX12_265 ha (by decide) rfl rfl rfl rfl [.int (zI v266)] ⟨rfl, hG, hS_s174, ha, (by omega)⟩ rfl rfl ⟨by decide, by decide⟩ ⟨by decide, by decide⟩ (k2 := 0) (n2 := 0) rfl rfl (Nat.le_of_ble_eq_true rfl) dX12_book_153 (kIM (fun v382 s177 hS_s177 hF_s177 q383 => ?_))
                      refine j_istore_n hx [(3, .int (zI v382)), (5, .int (zI v375)), (4, .int (zI v296)), (0, .ref a), (2, .int (zI v266))] dX12_book_156 (by decide) rfl ?_
                      refine j_aload_n hx 3 dX12_book_157 rfl ?_
                      have f384 := zf hS_s177 ha (k := 5) rfl
                      refine g13_5 hx hG ha kf_RX12_137 rfl dX12_book_158 ?_
                      refine j_iconst hx dX12_book_161 ?_
                      refine j_icmp_eq hx 167 dX12_book_162 rfl (by omega) ⟨by decide, by decide⟩ (fun h385 => ?_) (fun h385 => ?_)
                      · skip
                        refine j_aload_n hx 3 dX12_book_167 rfl ?_
                        refine j_iload_n hx 4 dX12_book_168 rfl ?_
                        refine p13_41 hx hG ha kf_RX12_198 dX12_book_169 ?_
                        obtain ⟨s178, e_s178⟩ : ∃ z, z = zU s177 a 41 v266 := ⟨_, rfl⟩
                        rw [← e_s178]
                        have hS_s178 : zSK G s178 := by rw [e_s178]; exact zSK_F hS_s177 ha rfl rfl rfl (by omega)
                        refine j_iconst hx dX12_book_172 ?_
                        refine j_istore hx [(4, .int (zI 0)), (3, .int (zI v382)), (5, .int (zI v375)), (0, .ref a), (2, .int (zI v266))] dX12_book_173 (by decide) rfl ?_
                        have c175_179 : ∀ (m_c175_179 : Nat) (v386 : Int) (s180 : zS), 2147483648 - v386 < m_c175_179 → (0 ≤ v386 ∧ v386 ≤ 2147483647) → (zSK G s180) → (zFr [97] G s178 s180) → JJ X E 6 G s180 0 0 [(0, .ref a), (2, .int (zI v266)), (3, .int (zI v382)), (4, .int (zI v386))] 175 [] := by
                          intro m_c175_179
                          induction m_c175_179 with
                          | zero => intro v386 s180 hm_c175_179 f181 hS_s180 hF_s180; exfalso; omega
                          | succ m_c175_179 ih_c175_179 => 
                            intro v386 s180 hm_c175_179 f181 hS_s180 hF_s180
                            refine j_iload hx 3 dX12_book_175 rfl ?_
                            refine j_iconst hx dX12_book_177 ?_
                            refine j_iload_n hx 1 dX12_book_178 rfl ?_
                            refine j_imul hx (r := 2 * v266) dX12_book_179 rfl ?_
                            refine j_icmp_ge hx 203 dX12_book_180 rfl (by omega) (by omega) (fun h387 => ?_) (fun h387 => ?_)
                            · skip
                              refine j_iload_n hx 2 dX12_book_203 rfl ?_
                              exact j_iret hx hq rfl (by decide) (by decide) dX12_book_204 ⟨v382, rfl, rfl, hS_s180, (zFr_t (zFr_u (zFr_t (zFr_t (zFr_t (zFr_t (zFr_t (zFr_t (zFr_t (zFr_t (zFr_u zFr_rf e_s1 ha (by decide)) hF_s124 (by decide)) hF_s125 (by decide)) hF_s127 (by decide)) hF_s147 (by decide)) hF_s172 (by decide)) hF_s173 (by decide)) hF_s174 (by decide)) hF_s177 (by decide)) e_s178 ha (by decide)) hF_s180 (by decide)), (by omega)⟩
                            · skip
                              refine j_aload_n hx 0 dX12_book_183 rfl ?_
                              refine g13_40 hx hG ha kf_RX12_92 dX12_book_184 ?_
                              refine j_iload hx 3 dX12_book_187 rfl ?_
                              refine j_aload_n hx 0 dX12_book_189 rfl ?_
                              refine g13_39 hx hG ha kf_RX12_89 dX12_book_190 ?_
                              refine j_iload hx 3 dX12_book_193 rfl ?_
                              have f388 := zaI (j := (v386).toNat) hS_s127 (zr (k := 39) (t2 := 96) hG ha rfl) rfl (zlen hG (zr (k := 39) (t2 := 96) hG ha rfl) (n := 24) rfl rfl) (show 0 ≤ v386 by omega) (by omega) rfl
                              refine j_iald hx hG (zr (k := 39) (t2 := 96) hG ha rfl) (by decide) rfl (zlen hG (zr (k := 39) (t2 := 96) hG ha rfl) (n := 24) rfl rfl) (by omega) (by omega) (j := (v386).toNat) rfl (v := (s127 (gP G a 39) (v386).toNat)) (by rw [(zFr_g hF_s180 (zr (k := 39) (t2 := 96) hG ha rfl) (by decide)), e_s178, zU_at (Or.inl (zne ha (zr (k := 39) (t2 := 96) hG ha rfl) (by decide))), (zFr_g hF_s177 (zr (k := 39) (t2 := 96) hG ha rfl) (by decide)), (zFr_g hF_s174 (zr (k := 39) (t2 := 96) hG ha rfl) (by decide)), (zFr_g hF_s173 (zr (k := 39) (t2 := 96) hG ha rfl) (by decide)), (zFr_g hF_s172 (zr (k := 39) (t2 := 96) hG ha rfl) (by decide)), (zFr_g hF_s147 (zr (k := 39) (t2 := 96) hG ha rfl) (by decide))]) dX12_book_195 ?_
                              refine j_iast hx hG (zr (k := 40) (t2 := 97) hG ha rfl) (by decide) rfl (zlen hG (zr (k := 40) (t2 := 97) hG ha rfl) (n := 24) rfl rfl) (by omega) (by omega) (j := (v386).toNat) rfl dX12_book_196 ?_
                              obtain ⟨s184, e_s184⟩ : ∃ z, z = zU s180 (gP G a 40) (v386).toNat ((s127 (gP G a 39) (v386).toNat)) := ⟨_, rfl⟩
                              rw [← e_s184]
                              have hS_s184 : zSK G s184 := by rw [e_s184]; exact zSK_A hS_s180 (zr (k := 40) (t2 := 97) hG ha rfl) rfl rfl rfl (by omega)
                              refine j_iinc hx 3 [(4, .int (zI (v386 + 1))), (0, .ref a), (2, .int (zI v266)), (3, .int (zI v382))] dX12_book_197 rfl (by omega) (by decide) rfl ?_
                              refine j_goto hx 175 dX12_book_200 rfl ?_
                              exact j_sub [1, 2, 3, 0] [(0, .ref a), (2, .int (zI v266)), (3, .int (zI v382)), (4, .int (zI (v386 + 1)))] rfl (ih_c175_179 (v386 + 1) s184 (by omega) (by omega) hS_s184 (zFr_u (zFr_t zFr_rf hF_s180 (by decide)) e_s184 (zr (k := 40) (t2 := 97) hG ha rfl) (by decide)))
                        exact j_sub [3, 4, 1, 0] [(0, .ref a), (2, .int (zI v266)), (3, .int (zI v382)), (4, .int (zI 0))] rfl (c175_179 (2147483648 * 4) 0 s178 (by omega) (by omega) hS_s178 zFr_rf)
                      · skip
                        refine j_iload_n hx 0 dX12_book_165 rfl ?_
                        exact j_iret hx hq rfl (by decide) (by decide) dX12_book_166 ⟨v382, rfl, rfl, hS_s177, (zFr_t (zFr_t (zFr_t (zFr_t (zFr_t (zFr_t (zFr_t (zFr_t (zFr_u zFr_rf e_s1 ha (by decide)) hF_s124 (by decide)) hF_s125 (by decide)) hF_s127 (by decide)) hF_s147 (by decide)) hF_s172 (by decide)) hF_s173 (by decide)) hF_s174 (by decide)) hF_s177 (by decide)), (by omega)⟩
        exact j_sub [1, 0] [(0, .ref a), (2, .int (zI 0))] rfl (c46_126 (2147483648 * 4) 0 s125 (by omega) (by omega) hS_s125 zFr_rf)
      · skip
        refine j_iconst hx dX12_book_37 ?_
        exact j_iret hx hq rfl (by decide) (by decide) dX12_book_38 ⟨0, rfl, rfl, hS_s124, (zFr_t (zFr_u zFr_rf e_s1 ha (by decide)) hF_s124 (by decide)), (by omega)⟩

set_option maxHeartbeats 4000000 in
set_option maxRecDepth 20000 in
theorem c_X12_fault {E : zE} {l : Launch} (hst : l.stackTraces = false) (a : Nat) : Con E l yX12_fault cX12_fault 1 (some .int) { frames := 0, cells := 0, slots := 0, locals := 0 } (fun G s vs => vs = [.ref a] ∧ zGK G ∧ zSK G s ∧ (gT G a = 13) ∧ (zS0 G s)) (fun G s _ => pI (fun r G2 s2 => G2 = G ∧ zSK G s2 ∧ zFr [13] G s s2 ∧ ((-2147483648) ≤ r ∧ r ≤ 2147483647))) := by
  refine Con.mk hst (by decide) (fun G s vs h => by rw [h.1]; exact Nat.le_of_ble_eq_true rfl) ?_
  rintro X G s0 vs ⟨rfl, hG, hS0, ha, hF0⟩ rfl hx hq
  show JJ X E 1 G s0 0 0 [(0, .ref a)] 0 []
  refine j_aload_n hx 0 dX12_fault_0 rfl ?_
  refine j_iconst hx dX12_fault_1 ?_
  refine p13_0 hx hG ha kf_RX12_3 dX12_fault_2 ?_
  obtain ⟨s1, e_s1⟩ : ∃ z, z = zU s0 a 0 0 := ⟨_, rfl⟩
  rw [← e_s1]
  have hS_s1 : zSK G s1 := by rw [e_s1]; exact zSK_F hS0 ha rfl rfl rfl (by omega)
  refine j_aload_n hx 0 dX12_fault_5 rfl ?_
  have f1 := z0f hF0 ha (k := 8) rfl
  refine g13_8 hx hG ha kf_RX12_17 (v := (s0 a 8)) (by rw [e_s1, zU_at (Or.inr (by decide))]) dX12_fault_6 ?_
  exact j_iret hx hq rfl (by decide) (by decide) dX12_fault_9 ⟨(s0 a 8), rfl, rfl, hS_s1, (zFr_u zFr_rf e_s1 ha (by decide)), (by omega)⟩

set_option maxHeartbeats 4000000 in
set_option maxRecDepth 20000 in
theorem c_X12_isOver {E : zE} {l : Launch} (hst : l.stackTraces = false) (a : Nat) : Con E l yX12_isOver cX12_isOver 3 (some .boolean) { frames := 0, cells := 0, slots := 0, locals := 0 } (fun G s vs => vs = [.ref a] ∧ zGK G ∧ zSK G s ∧ (gT G a = 13)) (fun G s _ => pI (fun r G2 s2 => G2 = G ∧ s2 = s ∧ (0 ≤ r ∧ r ≤ 1))) := by
  refine Con.mk hst (by decide) (fun G s vs h => by rw [h.1]; exact Nat.le_of_ble_eq_true rfl) ?_
  rintro X G s0 vs ⟨rfl, hG, hS0, ha⟩ rfl hx hq
  show JJ X E 3 G s0 0 0 [(0, .ref a)] 0 []
  refine j_iconst hx dX12_isOver_0 ?_
  refine j_istore_n hx [(1, .int (zI 0)), (0, .ref a)] dX12_isOver_1 (by decide) rfl ?_
  refine j_iconst hx dX12_isOver_2 ?_
  refine j_istore_n hx [(2, .int (zI 0)), (1, .int (zI 0)), (0, .ref a)] dX12_isOver_3 (by decide) rfl ?_
  refine j_iload_n hx 0 dX12_isOver_4 rfl ?_
  refine j_aload_n hx 2 dX12_isOver_5 rfl ?_
  have f1 := zf hS0 ha (k := 24) rfl
  refine g13_24 hx hG ha kf_RX12_189 rfl dX12_isOver_6 ?_
  refine j_icmp_ge hx 34 dX12_isOver_9 rfl ⟨by decide, by decide⟩ (by omega) (fun h2 => ?_) (fun h2 => absurd h2 (by omega))
  refine j_iload_n hx 1 dX12_isOver_34 rfl ?_
  refine j_iconst hx dX12_isOver_35 ?_
  refine j_icmp_gt hx 43 dX12_isOver_36 rfl ⟨by decide, by decide⟩ ⟨by decide, by decide⟩ (fun h3 => absurd h3 (by omega)) (fun h3 => ?_)
  refine j_iconst hx dX12_isOver_39 ?_
  refine j_goto hx 44 dX12_isOver_40 rfl ?_
  exact j_zret hx hq rfl (by decide) (by decide) dX12_isOver_44 (by omega) ⟨1, rfl, rfl, rfl, (by omega)⟩

set_option maxHeartbeats 4000000 in
set_option maxRecDepth 20000 in
theorem c_X12_next {E : zE} {l : Launch} (hst : l.stackTraces = false) (a : Nat) (x1 : Int) : Con E l yX12_next cX12_next 3 (some .int) { frames := 0, cells := 0, slots := 0, locals := 0 } (fun G s vs => vs = [.ref a, .int (zI x1)] ∧ zGK G ∧ zSK G s ∧ (gT G a = 13) ∧ ((-2147483648) ≤ x1 ∧ x1 ≤ 2147483647)) (fun G s _ => pI (fun r G2 s2 => G2 = G ∧ s2 = s ∧ ((-2147483648) ≤ r ∧ r ≤ 2147483647))) := by
  refine Con.mk hst (by decide) (fun G s vs h => by rw [h.1]; exact Nat.le_of_ble_eq_true rfl) ?_
  rintro X G s0 vs ⟨rfl, hG, hS0, ha, hx1⟩ rfl hx hq
  show JJ X E 3 G s0 0 0 [(0, .ref a), (1, .int (zI x1))] 0 []
  refine j_iconst hx dX12_next_0 ?_
  refine j_istore_n hx [(2, .int (zI 1)), (0, .ref a), (1, .int (zI x1))] dX12_next_1 (by decide) rfl ?_
  refine j_iload_n hx 0 dX12_next_2 rfl ?_
  refine j_aload_n hx 1 dX12_next_3 rfl ?_
  have f1 := zf hS0 ha (k := 24) rfl
  refine g13_24 hx hG ha kf_RX12_189 rfl dX12_next_4 ?_
  refine j_icmp_gt hx 40 dX12_next_7 rfl ⟨by decide, by decide⟩ (by omega) (fun h2 => ?_) (fun h2 => absurd h2 (by omega))
  refine j_iconst hx dX12_next_40 ?_
  exact j_iret hx hq rfl (by decide) (by decide) dX12_next_41 ⟨(-1), rfl, rfl, rfl, (by omega)⟩

theorem lk_RX12_328 : LkV RX12 328 RX12 yX12_isOver cX12_isOver 3 (some .boolean) 0 := ⟨km_RX12_328, ki_yX12_isOver, ks_RX12_yX12_isOver, kn_RX12, kc_yX12_isOver, rfl, by decide +kernel, by decide +kernel, by decide +kernel⟩
theorem lk_RX12_331 : LkV RX12 331 RX12 yX12_next cX12_next 3 (some .int) 1 := ⟨km_RX12_331, ki_yX12_next, ks_RX12_yX12_next, kn_RX12, kc_yX12_next, rfl, by decide +kernel, by decide +kernel, by decide +kernel⟩
set_option maxHeartbeats 4000000 in
set_option maxRecDepth 20000 in
theorem c_X12_whose {E : zE} {l : Launch} (hst : l.stackTraces = false) (a : Nat) : Con E l yX12_whose cX12_whose 1 (some .int) { frames := 1, cells := 0, slots := 0, locals := 22 } (fun G s vs => vs = [.ref a] ∧ zGK G ∧ zSK G s ∧ (gT G a = 13)) (fun G s _ => pI (fun r G2 s2 => G2 = G ∧ s2 = s ∧ ((-2147483648) ≤ r ∧ r ≤ 2147483647))) := by
  refine Con.mk hst (by decide) (fun G s vs h => by rw [h.1]; exact Nat.le_of_ble_eq_true rfl) ?_
  rintro X G s0 vs ⟨rfl, hG, hS0, ha⟩ rfl hx hq
  show JJ X E 1 G s0 0 0 [(0, .ref a)] 0 []
  refine j_aload_n hx 0 dX12_whose_0 rfl ?_
  refine j_callV hx hG (c_X12_isOver hst a) lk_RX12_328 ha (by decide) rfl rfl rfl rfl [] ⟨rfl, hG, hS0, ha⟩ rfl rfl ⟨by decide, by decide⟩ ⟨by decide, by decide⟩ (k2 := 0) (n2 := 0) rfl rfl (Nat.le_of_ble_eq_true rfl) dX12_whose_1 (kIP (fun v1 q2 => ?_))
  refine j_if_eq hx 11 dX12_whose_4 rfl (by omega) (fun h3 => ?_) (fun h3 => ?_)
  · skip
    refine j_aload_n hx 0 dX12_whose_11 rfl ?_
    refine j_aload_n hx 0 dX12_whose_12 rfl ?_
    refine g13_27 hx hG ha kf_RX12_56 dX12_whose_13 ?_
    refine j_sipush hx dX12_whose_16 rfl ?_
    have f4 := zaI (j := 487) hS0 (zr (k := 27) (t2 := 84) hG ha rfl) rfl (zlen hG (zr (k := 27) (t2 := 84) hG ha rfl) (n := 515) rfl rfl) (show 0 ≤ 487 by omega) (by omega) rfl
    refine j_iald hx hG (zr (k := 27) (t2 := 84) hG ha rfl) (by decide) rfl (zlen hG (zr (k := 27) (t2 := 84) hG ha rfl) (n := 515) rfl rfl) (by omega) (by omega) (j := 487) rfl rfl dX12_whose_19 ?_
    refine j_callV hx hG (c_X12_next hst a ((s0 (gP G a 27) 487))) lk_RX12_331 ha (by decide) rfl rfl rfl rfl [.int (zI ((s0 (gP G a 27) 487)))] ⟨rfl, hG, hS0, ha, (by omega)⟩ rfl rfl ⟨by decide, by decide⟩ ⟨by decide, by decide⟩ (k2 := 0) (n2 := 0) rfl rfl (Nat.le_of_ble_eq_true rfl) dX12_whose_20 (kIP (fun v5 q6 => ?_))
    exact j_iret hx hq rfl (by decide) (by decide) dX12_whose_23 ⟨v5, rfl, rfl, rfl, (by omega)⟩
  · skip
    refine j_iconst hx dX12_whose_7 ?_
    refine j_goto hx 23 dX12_whose_8 rfl ?_
    exact j_iret hx hq rfl (by decide) (by decide) dX12_whose_23 ⟨(-1), rfl, rfl, rfl, (by omega)⟩

theorem lk_RX12_314 : LkS RX12 314 yX12_within cX12_within 3 (some .boolean) 3 := ⟨km_RX12_314, kst_yX12_within, kn_RX12, kc_yX12_within, by decide +kernel, by decide +kernel, by decide +kernel⟩
theorem lk_RX12_336 : LkV RX12 336 RX12 yX12_whose cX12_whose 1 (some .int) 0 := ⟨km_RX12_336, ki_yX12_whose, ks_RX12_yX12_whose, kn_RX12, kc_yX12_whose, rfl, by decide +kernel, by decide +kernel, by decide +kernel⟩
set_option maxHeartbeats 4000000 in
set_option maxRecDepth 20000 in
theorem c_X12_told {E : zE} {l : Launch} (hst : l.stackTraces = false) (a : Nat) (x1 : Int) : Con E l yX12_told cX12_told 2 (some .int) { frames := 2, cells := 0, slots := 0, locals := 42 } (fun G s vs => vs = [.ref a, .int (zI x1)] ∧ zGK G ∧ zSK G s ∧ (gT G a = 13) ∧ ((-2147483648) ≤ x1 ∧ x1 ≤ 2147483647) ∧ (zS0 G s)) (fun G s _ => pI (fun r G2 s2 => G2 = G ∧ zSK G s2 ∧ zFr [13, 71] G s s2 ∧ ((-2147483648) ≤ r ∧ r ≤ 2147483647))) := by
  refine Con.mk hst (by decide) (fun G s vs h => by rw [h.1]; exact Nat.le_of_ble_eq_true rfl) ?_
  rintro X G s0 vs ⟨rfl, hG, hS0, ha, hx1, hF0⟩ rfl hx hq
  show JJ X E 2 G s0 0 0 [(0, .ref a), (1, .int (zI x1))] 0 []
  refine j_aload_n hx 0 dX12_told_0 rfl ?_
  refine j_iconst hx dX12_told_1 ?_
  refine p13_0 hx hG ha kf_RX12_3 dX12_told_2 ?_
  obtain ⟨s1, e_s1⟩ : ∃ z, z = zU s0 a 0 0 := ⟨_, rfl⟩
  rw [← e_s1]
  have hS_s1 : zSK G s1 := by rw [e_s1]; exact zSK_F hS0 ha rfl rfl rfl (by omega)
  refine j_aload_n hx 0 dX12_told_5 rfl ?_
  refine j_iload_n hx 1 dX12_told_6 rfl ?_
  refine j_iconst hx dX12_told_7 ?_
  refine j_bipush hx dX12_told_8 rfl ?_
  refine j_callS hx (c_X12_within hst x1 0 8) lk_RX12_314 [.int (zI x1), .int (zI 0), .int (zI 8)] ⟨rfl, hG, hS_s1, (by omega), (by omega), (by omega)⟩ rfl rfl ⟨by decide, by decide⟩ ⟨by decide, by decide⟩ (k2 := 0) (n2 := 0) rfl rfl (Nat.le_of_ble_eq_true rfl) dX12_told_10 (kIP (fun v1 q2 => ?_))
  refine j_iconst hx dX12_told_13 ?_
  refine j_iconst hx dX12_told_14 ?_
  refine j_callV hx hG (c_X12_may hst a v1 1 1) lk_RX12_240 ha (by decide) rfl rfl rfl rfl [.int (zI v1), .int (zI 1), .int (zI 1)] ⟨rfl, hG, hS_s1, ha, (by omega), (by omega), (by omega)⟩ rfl rfl ⟨by decide, by decide⟩ ⟨by decide, by decide⟩ (k2 := 0) (n2 := 0) rfl rfl (Nat.le_of_ble_eq_true rfl) dX12_told_15 (kIM (fun v3 s2 hS_s2 hF_s2 q4 => ?_))
  refine j_if_ne hx 23 dX12_told_18 rfl (by omega) (fun h5 => ?_) (fun h5 => ?_)
  · skip
    refine j_iload_n hx 1 dX12_told_23 rfl ?_
    refine j_iconst hx dX12_told_24 ?_
    refine j_icmp_ge hx 60 dX12_told_25 rfl (by omega) ⟨by decide, by decide⟩ (fun h6 => ?_) (fun h6 => ?_)
    · skip
      refine j_iload_n hx 1 dX12_told_60 rfl ?_
      refine j_iconst hx dX12_told_61 ?_
      refine j_icmp_ge hx 86 dX12_told_62 rfl (by omega) ⟨by decide, by decide⟩ (fun h7 => ?_) (fun h7 => ?_)
      · skip
        refine j_iload_n hx 1 dX12_told_86 rfl ?_
        refine j_bipush hx dX12_told_87 rfl ?_
        refine j_icmp_ge hx 107 dX12_told_89 rfl (by omega) ⟨by decide, by decide⟩ (fun h8 => ?_) (fun h8 => ?_)
        · skip
          refine j_aload_n hx 0 dX12_told_107 rfl ?_
          have f9 := zf hS_s2 ha (k := 26) rfl
          refine g13_26 hx hG ha kf_RX12_195 rfl dX12_told_108 ?_
          exact j_iret hx hq rfl (by decide) (by decide) dX12_told_111 ⟨(s2 a 26), rfl, rfl, hS_s2, (zFr_t (zFr_u zFr_rf e_s1 ha (by decide)) hF_s2 (by decide)), (by omega)⟩
        · skip
          refine j_aload_n hx 0 dX12_told_92 rfl ?_
          refine g13_27 hx hG ha kf_RX12_56 dX12_told_93 ?_
          refine j_sipush hx dX12_told_96 rfl ?_
          refine j_iload_n hx 1 dX12_told_99 rfl ?_
          refine j_iadd hx (r := x1 + 491) dX12_told_100 (by omega) ?_
          refine j_iconst hx dX12_told_101 ?_
          refine j_isub hx (r := x1 + 486) dX12_told_102 (by omega) ?_
          have f10 := zaI (j := (x1 + 486).toNat) hS0 (zr (k := 27) (t2 := 84) hG ha rfl) rfl (zlen hG (zr (k := 27) (t2 := 84) hG ha rfl) (n := 515) rfl rfl) (show 0 ≤ x1 + 486 by omega) (by omega) rfl
          refine j_iald hx hG (zr (k := 27) (t2 := 84) hG ha rfl) (by decide) rfl (zlen hG (zr (k := 27) (t2 := 84) hG ha rfl) (n := 515) rfl rfl) (by omega) (by omega) (j := (x1 + 486).toNat) rfl (v := (s0 (gP G a 27) (x1 + 486).toNat)) (by rw [(zFr_g hF_s2 (zr (k := 27) (t2 := 84) hG ha rfl) (by decide)), e_s1, zU_at (Or.inl (zne ha (zr (k := 27) (t2 := 84) hG ha rfl) (by decide)))]) dX12_told_103 ?_
          refine j_goto hx 111 dX12_told_104 rfl ?_
          exact j_iret hx hq rfl (by decide) (by decide) dX12_told_111 ⟨(s0 (gP G a 27) (x1 + 486).toNat), rfl, rfl, hS_s2, (zFr_t (zFr_u zFr_rf e_s1 ha (by decide)) hF_s2 (by decide)), (by omega)⟩
      · skip
        refine j_iload_n hx 1 dX12_told_65 rfl ?_
        refine j_iconst hx dX12_told_66 ?_
        refine j_icmp_ne hx 77 dX12_told_67 rfl (by omega) ⟨by decide, by decide⟩ (fun h11 => ?_) (fun h11 => ?_)
        · skip
          refine j_aload_n hx 0 dX12_told_77 rfl ?_
          refine g13_27 hx hG ha kf_RX12_56 dX12_told_78 ?_
          refine j_sipush hx dX12_told_81 rfl ?_
          have f12 := z0a (j := 486) hF0 (zr (k := 27) (t2 := 84) hG ha rfl) rfl (zlen hG (zr (k := 27) (t2 := 84) hG ha rfl) (n := 515) rfl rfl) (show 0 ≤ 486 by omega) (by omega) rfl
          refine j_iald hx hG (zr (k := 27) (t2 := 84) hG ha rfl) (by decide) rfl (zlen hG (zr (k := 27) (t2 := 84) hG ha rfl) (n := 515) rfl rfl) (by omega) (by omega) (j := 486) rfl (v := (s0 (gP G a 27) 486)) (by rw [(zFr_g hF_s2 (zr (k := 27) (t2 := 84) hG ha rfl) (by decide)), e_s1, zU_at (Or.inl (zne ha (zr (k := 27) (t2 := 84) hG ha rfl) (by decide)))]) dX12_told_84 ?_
          exact j_iret hx hq rfl (by decide) (by decide) dX12_told_85 ⟨(s0 (gP G a 27) 486), rfl, rfl, hS_s2, (zFr_t (zFr_u zFr_rf e_s1 ha (by decide)) hF_s2 (by decide)), (by omega)⟩
        · skip
          refine j_aload_n hx 0 dX12_told_70 rfl ?_
          refine j_callV hx hG (c_X12_whose hst a) lk_RX12_336 ha (by decide) rfl rfl rfl rfl [] ⟨rfl, hG, hS_s2, ha⟩ rfl rfl ⟨by decide, by decide⟩ ⟨by decide, by decide⟩ (k2 := 0) (n2 := 0) rfl rfl (Nat.le_of_ble_eq_true rfl) dX12_told_71 (kIP (fun v13 q14 => ?_))
          refine j_goto hx 85 dX12_told_74 rfl ?_
          exact j_iret hx hq rfl (by decide) (by decide) dX12_told_85 ⟨v13, rfl, rfl, hS_s2, (zFr_t (zFr_u zFr_rf e_s1 ha (by decide)) hF_s2 (by decide)), (by omega)⟩
    · skip
      refine j_iload_n hx 1 dX12_told_28 rfl ?_
      refine j_if_ne hx 39 dX12_told_29 rfl (by omega) (fun h15 => ?_) (fun h15 => ?_)
      · skip
        refine j_iload_n hx 1 dX12_told_39 rfl ?_
        refine j_iconst hx dX12_told_40 ?_
        refine j_icmp_ne hx 51 dX12_told_41 rfl (by omega) ⟨by decide, by decide⟩ (fun h16 => ?_) (fun h16 => ?_)
        · skip
          refine j_aload_n hx 0 dX12_told_51 rfl ?_
          refine g13_27 hx hG ha kf_RX12_56 dX12_told_52 ?_
          refine j_sipush hx dX12_told_55 rfl ?_
          have f17 := z0a (j := 488) hF0 (zr (k := 27) (t2 := 84) hG ha rfl) rfl (zlen hG (zr (k := 27) (t2 := 84) hG ha rfl) (n := 515) rfl rfl) (show 0 ≤ 488 by omega) (by omega) rfl
          refine j_iald hx hG (zr (k := 27) (t2 := 84) hG ha rfl) (by decide) rfl (zlen hG (zr (k := 27) (t2 := 84) hG ha rfl) (n := 515) rfl rfl) (by omega) (by omega) (j := 488) rfl (v := (s0 (gP G a 27) 488)) (by rw [(zFr_g hF_s2 (zr (k := 27) (t2 := 84) hG ha rfl) (by decide)), e_s1, zU_at (Or.inl (zne ha (zr (k := 27) (t2 := 84) hG ha rfl) (by decide)))]) dX12_told_58 ?_
          exact j_iret hx hq rfl (by decide) (by decide) dX12_told_59 ⟨(s0 (gP G a 27) 488), rfl, rfl, hS_s2, (zFr_t (zFr_u zFr_rf e_s1 ha (by decide)) hF_s2 (by decide)), (by omega)⟩
        · skip
          refine j_aload_n hx 0 dX12_told_44 rfl ?_
          have f18 := zf hS_s2 ha (k := 25) rfl
          refine g13_25 hx hG ha kf_RX12_192 rfl dX12_told_45 ?_
          refine j_goto hx 59 dX12_told_48 rfl ?_
          exact j_iret hx hq rfl (by decide) (by decide) dX12_told_59 ⟨(s2 a 25), rfl, rfl, hS_s2, (zFr_t (zFr_u zFr_rf e_s1 ha (by decide)) hF_s2 (by decide)), (by omega)⟩
      · skip
        refine j_aload_n hx 0 dX12_told_32 rfl ?_
        have f19 := zf hS_s2 ha (k := 24) rfl
        refine g13_24 hx hG ha kf_RX12_189 rfl dX12_told_33 ?_
        refine j_goto hx 59 dX12_told_36 rfl ?_
        exact j_iret hx hq rfl (by decide) (by decide) dX12_told_59 ⟨(s2 a 24), rfl, rfl, hS_s2, (zFr_t (zFr_u zFr_rf e_s1 ha (by decide)) hF_s2 (by decide)), (by omega)⟩
  · skip
    refine j_iconst hx dX12_told_21 ?_
    exact j_iret hx hq rfl (by decide) (by decide) dX12_told_22 ⟨0, rfl, rfl, hS_s2, (zFr_t (zFr_u zFr_rf e_s1 ha (by decide)) hF_s2 (by decide)), (by omega)⟩

set_option maxHeartbeats 4000000 in
set_option maxRecDepth 20000 in
theorem c_X12_isPlayer {E : zE} {l : Launch} (hst : l.stackTraces = false) (a : Nat) (x1 : Int) (x2 : Int) : Con E l yX12_isPlayer cX12_isPlayer 3 (some .boolean) { frames := 1, cells := 0, slots := 0, locals := 23 } (fun G s vs => vs = [.ref a, .int (zI x1), .int (zI x2)] ∧ zGK G ∧ zSK G s ∧ (gT G a = 13) ∧ ((-2147483648) ≤ x1 ∧ x1 ≤ 2147483647) ∧ ((-2147483648) ≤ x2 ∧ x2 ≤ 2147483647)) (fun G s _ => pI (fun r G2 s2 => G2 = G ∧ zSK G s2 ∧ zFr [13, 71] G s s2 ∧ (0 ≤ r ∧ r ≤ 1))) := by
  refine Con.mk hst (by decide) (fun G s vs h => by rw [h.1]; exact Nat.le_of_ble_eq_true rfl) ?_
  rintro X G s0 vs ⟨rfl, hG, hS0, ha, hx1, hx2⟩ rfl hx hq
  show JJ X E 3 G s0 0 0 [(0, .ref a), (1, .int (zI x1)), (2, .int (zI x2))] 0 []
  refine j_aload_n hx 0 dX12_isPlayer_0 rfl ?_
  refine j_iload_n hx 1 dX12_isPlayer_1 rfl ?_
  refine j_iconst hx dX12_isPlayer_2 ?_
  refine j_aload_n hx 0 dX12_isPlayer_3 rfl ?_
  have f1 := zf hS0 ha (k := 24) rfl
  refine g13_24 hx hG ha kf_RX12_189 rfl dX12_isPlayer_4 ?_
  refine j_iconst hx dX12_isPlayer_7 ?_
  refine j_isub hx (r := (s0 a 24) - 1) dX12_isPlayer_8 (by omega) ?_
  refine j_callS hx (c_X12_within hst x1 0 ((s0 a 24) - 1)) lk_RX12_314 [.int (zI x1), .int (zI 0), .int (zI ((s0 a 24) - 1))] ⟨rfl, hG, hS0, (by omega), (by omega), (by omega)⟩ rfl rfl ⟨by decide, by decide⟩ ⟨by decide, by decide⟩ (k2 := 0) (n2 := 0) rfl rfl (Nat.le_of_ble_eq_true rfl) dX12_isPlayer_9 (kIP (fun v2 q3 => ?_))
  refine j_iload_n hx 2 dX12_isPlayer_12 rfl ?_
  refine j_iconst hx dX12_isPlayer_13 ?_
  refine j_callV hx hG (c_X12_may hst a v2 x2 0) lk_RX12_240 ha (by decide) rfl rfl rfl rfl [.int (zI v2), .int (zI x2), .int (zI 0)] ⟨rfl, hG, hS0, ha, (by omega), (by omega), (by omega)⟩ rfl rfl ⟨by decide, by decide⟩ ⟨by decide, by decide⟩ (k2 := 0) (n2 := 0) rfl rfl (Nat.le_of_ble_eq_true rfl) dX12_isPlayer_14 (kIM (fun v4 s1 hS_s1 hF_s1 q5 => ?_))
  exact j_zret hx hq rfl (by decide) (by decide) dX12_isPlayer_17 (by omega) ⟨v4, rfl, rfl, hS_s1, (zFr_t zFr_rf hF_s1 (by decide)), (by omega)⟩

set_option maxHeartbeats 4000000 in
set_option maxRecDepth 20000 in
theorem c_X12_held {E : zE} {l : Launch} (hst : l.stackTraces = false) (a : Nat) (x1 : Int) : Con E l yX12_held cX12_held 2 (some .int) { frames := 0, cells := 0, slots := 0, locals := 0 } (fun G s vs => vs = [.ref a, .int (zI x1)] ∧ zGK G ∧ zSK G s ∧ (gT G a = 13) ∧ ((-2147483648) ≤ x1 ∧ x1 ≤ 2147483647)) (fun G s _ => pI (fun r G2 s2 => G2 = G ∧ s2 = s ∧ ((-2147483648) ≤ r ∧ r ≤ 2147483647))) := by
  refine Con.mk hst (by decide) (fun G s vs h => by rw [h.1]; exact Nat.le_of_ble_eq_true rfl) ?_
  rintro X G s0 vs ⟨rfl, hG, hS0, ha, hx1⟩ rfl hx hq
  show JJ X E 2 G s0 0 0 [(0, .ref a), (1, .int (zI x1))] 0 []
  refine j_aload_n hx 0 dX12_held_0 rfl ?_
  refine g13_27 hx hG ha kf_RX12_56 dX12_held_1 ?_
  refine j_sipush hx dX12_held_4 rfl ?_
  refine j_iload_n hx 1 dX12_held_7 rfl ?_
  refine j_iadd hx (r := x1 + 480) dX12_held_8 (by omega) ?_
  refine j_norm (fun v1 f2 f3 f4 => ?_)
  have f5 := zaI (j := (v1).toNat) hS0 (zr (k := 27) (t2 := 84) hG ha rfl) rfl (zlen hG (zr (k := 27) (t2 := 84) hG ha rfl) (n := 515) rfl rfl) (show 0 ≤ v1 by omega) (by omega) rfl
  refine j_iald hx hG (zr (k := 27) (t2 := 84) hG ha rfl) (by decide) rfl (zlen hG (zr (k := 27) (t2 := 84) hG ha rfl) (n := 515) rfl rfl) (by omega) (by omega) (j := (v1).toNat) rfl rfl dX12_held_9 ?_
  refine j_aload_n hx 0 dX12_held_10 rfl ?_
  refine g13_27 hx hG ha kf_RX12_56 dX12_held_11 ?_
  refine j_sipush hx dX12_held_14 rfl ?_
  refine j_iload_n hx 1 dX12_held_17 rfl ?_
  refine j_iadd hx (r := x1 + 483) dX12_held_18 (by omega) ?_
  refine j_norm (fun v6 f7 f8 f9 => ?_)
  have f10 := zaI (j := (v6).toNat) hS0 (zr (k := 27) (t2 := 84) hG ha rfl) rfl (zlen hG (zr (k := 27) (t2 := 84) hG ha rfl) (n := 515) rfl rfl) (show 0 ≤ v6 by omega) (by omega) rfl
  refine j_iald hx hG (zr (k := 27) (t2 := 84) hG ha rfl) (by decide) rfl (zlen hG (zr (k := 27) (t2 := 84) hG ha rfl) (n := 515) rfl rfl) (by omega) (by omega) (j := (v6).toNat) rfl rfl dX12_held_19 ?_
  refine j_iadd hx (r := (s0 (gP G a 27) (v1).toNat) + (s0 (gP G a 27) (v6).toNat)) dX12_held_20 (by omega) ?_
  refine j_norm (fun v11 f12 f13 f14 => ?_)
  exact j_iret hx hq rfl (by decide) (by decide) dX12_held_21 ⟨v11, rfl, rfl, rfl, (by omega)⟩

theorem lk_RX12_322 : LkV RX12 322 RX12 yX12_held cX12_held 2 (some .int) 1 := ⟨km_RX12_322, ki_yX12_held, ks_RX12_yX12_held, kn_RX12, kc_yX12_held, rfl, by decide +kernel, by decide +kernel, by decide +kernel⟩
set_option maxHeartbeats 4000000 in
set_option maxRecDepth 20000 in
theorem c_X12_isOut {E : zE} {l : Launch} (hst : l.stackTraces = false) (a : Nat) (x1 : Int) : Con E l yX12_isOut cX12_isOut 2 (some .boolean) { frames := 1, cells := 0, slots := 0, locals := 21 } (fun G s vs => vs = [.ref a, .int (zI x1)] ∧ zGK G ∧ zSK G s ∧ (gT G a = 13) ∧ ((-2147483648) ≤ x1 ∧ x1 ≤ 2147483647)) (fun G s _ => pI (fun r G2 s2 => G2 = G ∧ s2 = s ∧ (0 ≤ r ∧ r ≤ 1))) := by
  refine Con.mk hst (by decide) (fun G s vs h => by rw [h.1]; exact Nat.le_of_ble_eq_true rfl) ?_
  rintro X G s0 vs ⟨rfl, hG, hS0, ha, hx1⟩ rfl hx hq
  show JJ X E 2 G s0 0 0 [(0, .ref a), (1, .int (zI x1))] 0 []
  refine j_aload_n hx 0 dX12_isOut_0 rfl ?_
  refine j_iload_n hx 1 dX12_isOut_1 rfl ?_
  refine j_callV hx hG (c_X12_held hst a x1) lk_RX12_322 ha (by decide) rfl rfl rfl rfl [.int (zI x1)] ⟨rfl, hG, hS0, ha, (by omega)⟩ rfl rfl ⟨by decide, by decide⟩ ⟨by decide, by decide⟩ (k2 := 0) (n2 := 0) rfl rfl (Nat.le_of_ble_eq_true rfl) dX12_isOut_2 (kIP (fun v1 q2 => ?_))
  refine j_if_ne hx 12 dX12_isOut_5 rfl (by omega) (fun h3 => ?_) (fun h3 => ?_)
  · skip
    refine j_iconst hx dX12_isOut_12 ?_
    exact j_zret hx hq rfl (by decide) (by decide) dX12_isOut_13 (by omega) ⟨0, rfl, rfl, rfl, (by omega)⟩
  · skip
    refine j_iconst hx dX12_isOut_8 ?_
    refine j_goto hx 13 dX12_isOut_9 rfl ?_
    exact j_zret hx hq rfl (by decide) (by decide) dX12_isOut_13 (by omega) ⟨1, rfl, rfl, rfl, (by omega)⟩

theorem lk_RX12_339 : LkV RX12 339 RX12 yX12_isPlayer cX12_isPlayer 3 (some .boolean) 2 := ⟨km_RX12_339, ki_yX12_isPlayer, ks_RX12_yX12_isPlayer, kn_RX12, kc_yX12_isPlayer, rfl, by decide +kernel, by decide +kernel, by decide +kernel⟩
theorem lk_RX12_325 : LkV RX12 325 RX12 yX12_isOut cX12_isOut 2 (some .boolean) 1 := ⟨km_RX12_325, ki_yX12_isOut, ks_RX12_yX12_isOut, kn_RX12, kc_yX12_isOut, rfl, by decide +kernel, by decide +kernel, by decide +kernel⟩
set_option maxHeartbeats 4000000 in
set_option maxRecDepth 20000 in
theorem c_X12_player {E : zE} {l : Launch} (hst : l.stackTraces = false) (a : Nat) (x1 : Int) (x2 : Int) : Con E l yX12_player cX12_player 3 (some .int) { frames := 2, cells := 0, slots := 0, locals := 45 } (fun G s vs => vs = [.ref a, .int (zI x1), .int (zI x2)] ∧ zGK G ∧ zSK G s ∧ (gT G a = 13) ∧ ((-2147483648) ≤ x1 ∧ x1 ≤ 2147483647) ∧ ((-2147483648) ≤ x2 ∧ x2 ≤ 2147483647) ∧ (zS0 G s)) (fun G s _ => pI (fun r G2 s2 => G2 = G ∧ zSK G s2 ∧ zFr [13, 71] G s s2 ∧ ((-2147483648) ≤ r ∧ r ≤ 2147483647))) := by
  refine Con.mk hst (by decide) (fun G s vs h => by rw [h.1]; exact Nat.le_of_ble_eq_true rfl) ?_
  rintro X G s0 vs ⟨rfl, hG, hS0, ha, hx1, hx2, hF0⟩ rfl hx hq
  show JJ X E 3 G s0 0 0 [(0, .ref a), (1, .int (zI x1)), (2, .int (zI x2))] 0 []
  refine j_aload_n hx 0 dX12_player_0 rfl ?_
  refine j_iconst hx dX12_player_1 ?_
  refine p13_0 hx hG ha kf_RX12_3 dX12_player_2 ?_
  obtain ⟨s1, e_s1⟩ : ∃ z, z = zU s0 a 0 0 := ⟨_, rfl⟩
  rw [← e_s1]
  have hS_s1 : zSK G s1 := by rw [e_s1]; exact zSK_F hS0 ha rfl rfl rfl (by omega)
  refine j_aload_n hx 0 dX12_player_5 rfl ?_
  refine j_iload_n hx 1 dX12_player_6 rfl ?_
  refine j_iconst hx dX12_player_7 ?_
  refine j_callV hx hG (c_X12_isPlayer hst a x1 1) lk_RX12_339 ha (by decide) rfl rfl rfl rfl [.int (zI x1), .int (zI 1)] ⟨rfl, hG, hS_s1, ha, (by omega), (by omega)⟩ rfl rfl ⟨by decide, by decide⟩ ⟨by decide, by decide⟩ (k2 := 0) (n2 := 0) rfl rfl (Nat.le_of_ble_eq_true rfl) dX12_player_8 (kIM (fun v1 s2 hS_s2 hF_s2 q2 => ?_))
  refine j_if_eq hx 30 dX12_player_11 rfl (by omega) (fun h3 => ?_) (fun h3 => ?_)
  · skip
    refine j_iconst hx dX12_player_30 ?_
    exact j_iret hx hq rfl (by decide) (by decide) dX12_player_31 ⟨0, rfl, rfl, hS_s2, (zFr_t (zFr_u zFr_rf e_s1 ha (by decide)) hF_s2 (by decide)), (by omega)⟩
  · skip
    refine j_aload_n hx 0 dX12_player_14 rfl ?_
    refine j_iload_n hx 2 dX12_player_15 rfl ?_
    refine j_iconst hx dX12_player_16 ?_
    refine j_bipush hx dX12_player_17 rfl ?_
    refine j_callS hx (c_X12_within hst x2 0 7) lk_RX12_314 [.int (zI x2), .int (zI 0), .int (zI 7)] ⟨rfl, hG, hS_s2, (by omega), (by omega), (by omega)⟩ rfl rfl ⟨by decide, by decide⟩ ⟨by decide, by decide⟩ (k2 := 0) (n2 := 0) rfl rfl (Nat.le_of_ble_eq_true rfl) dX12_player_19 (kIP (fun v4 q5 => ?_))
    refine j_iconst hx dX12_player_22 ?_
    refine j_iconst hx dX12_player_23 ?_
    refine j_callV hx hG (c_X12_may hst a v4 2 1) lk_RX12_240 ha (by decide) rfl rfl rfl rfl [.int (zI v4), .int (zI 2), .int (zI 1)] ⟨rfl, hG, hS_s2, ha, (by omega), (by omega), (by omega)⟩ rfl rfl ⟨by decide, by decide⟩ ⟨by decide, by decide⟩ (k2 := 0) (n2 := 0) rfl rfl (Nat.le_of_ble_eq_true rfl) dX12_player_24 (kIM (fun v6 s3 hS_s3 hF_s3 q7 => ?_))
    refine j_if_ne hx 32 dX12_player_27 rfl (by omega) (fun h8 => ?_) (fun h8 => ?_)
    · skip
      refine j_iload_n hx 2 dX12_player_32 rfl ?_
      refine j_iconst hx dX12_player_33 ?_
      refine j_icmp_ge hx 62 dX12_player_34 rfl (by omega) ⟨by decide, by decide⟩ (fun h9 => ?_) (fun h9 => ?_)
      · skip
        refine j_iload_n hx 2 dX12_player_62 rfl ?_
        refine j_iconst hx dX12_player_63 ?_
        refine j_icmp_ne hx 80 dX12_player_64 rfl (by omega) ⟨by decide, by decide⟩ (fun h10 => ?_) (fun h10 => ?_)
        · skip
          refine j_iload_n hx 2 dX12_player_80 rfl ?_
          refine j_bipush hx dX12_player_81 rfl ?_
          refine j_icmp_ne hx 99 dX12_player_83 rfl (by omega) ⟨by decide, by decide⟩ (fun h11 => ?_) (fun h11 => ?_)
          · skip
            refine j_aload_n hx 0 dX12_player_99 rfl ?_
            refine j_iload_n hx 1 dX12_player_100 rfl ?_
            refine j_callV hx hG (c_X12_isOut hst a x1) lk_RX12_325 ha (by decide) rfl rfl rfl rfl [.int (zI x1)] ⟨rfl, hG, hS_s3, ha, (by omega)⟩ rfl rfl ⟨by decide, by decide⟩ ⟨by decide, by decide⟩ (k2 := 0) (n2 := 0) rfl rfl (Nat.le_of_ble_eq_true rfl) dX12_player_101 (kIP (fun v12 q13 => ?_))
            refine j_if_eq hx 111 dX12_player_104 rfl (by omega) (fun h14 => ?_) (fun h14 => ?_)
            · skip
              refine j_iconst hx dX12_player_111 ?_
              exact j_iret hx hq rfl (by decide) (by decide) dX12_player_112 ⟨0, rfl, rfl, hS_s3, (zFr_t (zFr_t (zFr_u zFr_rf e_s1 ha (by decide)) hF_s2 (by decide)) hF_s3 (by decide)), (by omega)⟩
            · skip
              refine j_iconst hx dX12_player_107 ?_
              refine j_goto hx 112 dX12_player_108 rfl ?_
              exact j_iret hx hq rfl (by decide) (by decide) dX12_player_112 ⟨1, rfl, rfl, hS_s3, (zFr_t (zFr_t (zFr_u zFr_rf e_s1 ha (by decide)) hF_s2 (by decide)) hF_s3 (by decide)), (by omega)⟩
          · skip
            refine j_aload_n hx 0 dX12_player_86 rfl ?_
            refine g13_27 hx hG ha kf_RX12_56 dX12_player_87 ?_
            refine j_sipush hx dX12_player_90 rfl ?_
            refine j_iload_n hx 1 dX12_player_93 rfl ?_
            refine j_iadd hx (r := x1 + 483) dX12_player_94 (by omega) ?_
            refine j_norm (fun v15 f16 f17 f18 => ?_)
            have f19 := zaI (j := (v15).toNat) hS0 (zr (k := 27) (t2 := 84) hG ha rfl) rfl (zlen hG (zr (k := 27) (t2 := 84) hG ha rfl) (n := 515) rfl rfl) (show 0 ≤ v15 by omega) (by omega) rfl
            refine j_iald hx hG (zr (k := 27) (t2 := 84) hG ha rfl) (by decide) rfl (zlen hG (zr (k := 27) (t2 := 84) hG ha rfl) (n := 515) rfl rfl) (by omega) (by omega) (j := (v15).toNat) rfl (v := (s0 (gP G a 27) (v15).toNat)) (by rw [(zFr_g hF_s3 (zr (k := 27) (t2 := 84) hG ha rfl) (by decide)), (zFr_g hF_s2 (zr (k := 27) (t2 := 84) hG ha rfl) (by decide)), e_s1, zU_at (Or.inl (zne ha (zr (k := 27) (t2 := 84) hG ha rfl) (by decide)))]) dX12_player_95 ?_
            refine j_goto hx 112 dX12_player_96 rfl ?_
            exact j_iret hx hq rfl (by decide) (by decide) dX12_player_112 ⟨(s0 (gP G a 27) (v15).toNat), rfl, rfl, hS_s3, (zFr_t (zFr_t (zFr_u zFr_rf e_s1 ha (by decide)) hF_s2 (by decide)) hF_s3 (by decide)), (by omega)⟩
        · skip
          refine j_aload_n hx 0 dX12_player_67 rfl ?_
          refine g13_27 hx hG ha kf_RX12_56 dX12_player_68 ?_
          refine j_sipush hx dX12_player_71 rfl ?_
          refine j_iload_n hx 1 dX12_player_74 rfl ?_
          refine j_iadd hx (r := x1 + 480) dX12_player_75 (by omega) ?_
          refine j_norm (fun v20 f21 f22 f23 => ?_)
          have f24 := zaI (j := (v20).toNat) hS0 (zr (k := 27) (t2 := 84) hG ha rfl) rfl (zlen hG (zr (k := 27) (t2 := 84) hG ha rfl) (n := 515) rfl rfl) (show 0 ≤ v20 by omega) (by omega) rfl
          refine j_iald hx hG (zr (k := 27) (t2 := 84) hG ha rfl) (by decide) rfl (zlen hG (zr (k := 27) (t2 := 84) hG ha rfl) (n := 515) rfl rfl) (by omega) (by omega) (j := (v20).toNat) rfl (v := (s0 (gP G a 27) (v20).toNat)) (by rw [(zFr_g hF_s3 (zr (k := 27) (t2 := 84) hG ha rfl) (by decide)), (zFr_g hF_s2 (zr (k := 27) (t2 := 84) hG ha rfl) (by decide)), e_s1, zU_at (Or.inl (zne ha (zr (k := 27) (t2 := 84) hG ha rfl) (by decide)))]) dX12_player_76 ?_
          refine j_goto hx 112 dX12_player_77 rfl ?_
          exact j_iret hx hq rfl (by decide) (by decide) dX12_player_112 ⟨(s0 (gP G a 27) (v20).toNat), rfl, rfl, hS_s3, (zFr_t (zFr_t (zFr_u zFr_rf e_s1 ha (by decide)) hF_s2 (by decide)) hF_s3 (by decide)), (by omega)⟩
      · skip
        refine j_iload_n hx 2 dX12_player_37 rfl ?_
        refine j_iconst hx dX12_player_38 ?_
        refine j_icmp_ge hx 55 dX12_player_39 rfl (by omega) ⟨by decide, by decide⟩ (fun h25 => ?_) (fun h25 => ?_)
        · skip
          refine j_aload_n hx 0 dX12_player_55 rfl ?_
          refine g13_18 hx hG ha kf_RX12_47 dX12_player_56 ?_
          refine j_iload_n hx 1 dX12_player_59 rfl ?_
          have f26 := z0a (j := (x1).toNat) hF0 (zr (k := 18) (t2 := 81) hG ha rfl) rfl (zlen hG (zr (k := 18) (t2 := 81) hG ha rfl) (n := 3) rfl rfl) (show 0 ≤ x1 by omega) (by omega) rfl
          refine j_iald hx hG (zr (k := 18) (t2 := 81) hG ha rfl) (by decide) rfl (zlen hG (zr (k := 18) (t2 := 81) hG ha rfl) (n := 3) rfl rfl) (by omega) (by omega) (j := (x1).toNat) rfl (v := (s0 (gP G a 18) (x1).toNat)) (by rw [(zFr_g hF_s3 (zr (k := 18) (t2 := 81) hG ha rfl) (by decide)), (zFr_g hF_s2 (zr (k := 18) (t2 := 81) hG ha rfl) (by decide)), e_s1, zU_at (Or.inl (zne ha (zr (k := 18) (t2 := 81) hG ha rfl) (by decide)))]) dX12_player_60 ?_
          exact j_iret hx hq rfl (by decide) (by decide) dX12_player_61 ⟨(s0 (gP G a 18) (x1).toNat), rfl, rfl, hS_s3, (zFr_t (zFr_t (zFr_u zFr_rf e_s1 ha (by decide)) hF_s2 (by decide)) hF_s3 (by decide)), (by omega)⟩
        · skip
          refine j_aload_n hx 0 dX12_player_42 rfl ?_
          refine g13_17 hx hG ha kf_RX12_44 dX12_player_43 ?_
          refine j_iconst hx dX12_player_46 ?_
          refine j_iload_n hx 1 dX12_player_47 rfl ?_
          refine j_imul hx (r := 4 * x1) dX12_player_48 rfl ?_
          refine j_norm (fun v27 f28 f29 f30 => ?_)
          refine j_iload_n hx 2 dX12_player_49 rfl ?_
          refine j_iadd hx (r := v27 + x2) dX12_player_50 rfl ?_
          refine j_norm (fun v31 f32 f33 f34 => ?_)
          have f35 := z0a (j := (v31).toNat) hF0 (zr (k := 17) (t2 := 80) hG ha rfl) rfl (zlen hG (zr (k := 17) (t2 := 80) hG ha rfl) (n := 12) rfl rfl) (show 0 ≤ v31 by omega) (by omega) rfl
          refine j_iald hx hG (zr (k := 17) (t2 := 80) hG ha rfl) (by decide) rfl (zlen hG (zr (k := 17) (t2 := 80) hG ha rfl) (n := 12) rfl rfl) (by omega) (by omega) (j := (v31).toNat) rfl (v := (s0 (gP G a 17) (v31).toNat)) (by rw [(zFr_g hF_s3 (zr (k := 17) (t2 := 80) hG ha rfl) (by decide)), (zFr_g hF_s2 (zr (k := 17) (t2 := 80) hG ha rfl) (by decide)), e_s1, zU_at (Or.inl (zne ha (zr (k := 17) (t2 := 80) hG ha rfl) (by decide)))]) dX12_player_51 ?_
          refine j_goto hx 61 dX12_player_52 rfl ?_
          exact j_iret hx hq rfl (by decide) (by decide) dX12_player_61 ⟨(s0 (gP G a 17) (v31).toNat), rfl, rfl, hS_s3, (zFr_t (zFr_t (zFr_u zFr_rf e_s1 ha (by decide)) hF_s2 (by decide)) hF_s3 (by decide)), (by omega)⟩
    · skip
      refine j_iconst hx dX12_player_30 ?_
      exact j_iret hx hq rfl (by decide) (by decide) dX12_player_31 ⟨0, rfl, rfl, hS_s3, (zFr_t (zFr_t (zFr_u zFr_rf e_s1 ha (by decide)) hF_s2 (by decide)) hF_s3 (by decide)), (by omega)⟩

set_option maxHeartbeats 4000000 in
set_option maxRecDepth 20000 in
theorem c_X12_row {E : zE} {l : Launch} (hst : l.stackTraces = false) (a : Nat) (x1 : Int) (x2 : Int) : Con E l yX12_row cX12_row 3 (some .int) { frames := 2, cells := 0, slots := 0, locals := 45 } (fun G s vs => vs = [.ref a, .int (zI x1), .int (zI x2)] ∧ zGK G ∧ zSK G s ∧ (gT G a = 13) ∧ ((-2147483648) ≤ x1 ∧ x1 ≤ 2147483647) ∧ ((-2147483648) ≤ x2 ∧ x2 ≤ 2147483647) ∧ (zS0 G s)) (fun G s _ => pI (fun r G2 s2 => G2 = G ∧ zSK G s2 ∧ zFr [13, 71] G s s2 ∧ ((-2147483648) ≤ r ∧ r ≤ 2147483647))) := by
  refine Con.mk hst (by decide) (fun G s vs h => by rw [h.1]; exact Nat.le_of_ble_eq_true rfl) ?_
  rintro X G s0 vs ⟨rfl, hG, hS0, ha, hx1, hx2, hF0⟩ rfl hx hq
  show JJ X E 3 G s0 0 0 [(0, .ref a), (1, .int (zI x1)), (2, .int (zI x2))] 0 []
  refine j_aload_n hx 0 dX12_row_0 rfl ?_
  refine j_iconst hx dX12_row_1 ?_
  refine p13_0 hx hG ha kf_RX12_3 dX12_row_2 ?_
  obtain ⟨s1, e_s1⟩ : ∃ z, z = zU s0 a 0 0 := ⟨_, rfl⟩
  rw [← e_s1]
  have hS_s1 : zSK G s1 := by rw [e_s1]; exact zSK_F hS0 ha rfl rfl rfl (by omega)
  refine j_aload_n hx 0 dX12_row_5 rfl ?_
  refine j_iload_n hx 1 dX12_row_6 rfl ?_
  refine j_iconst hx dX12_row_7 ?_
  refine j_callV hx hG (c_X12_isPlayer hst a x1 1) lk_RX12_339 ha (by decide) rfl rfl rfl rfl [.int (zI x1), .int (zI 1)] ⟨rfl, hG, hS_s1, ha, (by omega), (by omega)⟩ rfl rfl ⟨by decide, by decide⟩ ⟨by decide, by decide⟩ (k2 := 0) (n2 := 0) rfl rfl (Nat.le_of_ble_eq_true rfl) dX12_row_8 (kIM (fun v1 s2 hS_s2 hF_s2 q2 => ?_))
  refine j_if_ne hx 16 dX12_row_11 rfl (by omega) (fun h3 => ?_) (fun h3 => ?_)
  · skip
    refine j_iload_n hx 2 dX12_row_16 rfl ?_
    refine j_iconst hx dX12_row_17 ?_
    refine j_aload_n hx 0 dX12_row_18 rfl ?_
    refine g13_27 hx hG ha kf_RX12_56 dX12_row_19 ?_
    refine j_sipush hx dX12_row_22 rfl ?_
    refine j_iload_n hx 1 dX12_row_25 rfl ?_
    refine j_iadd hx (r := x1 + 480) dX12_row_26 (by omega) ?_
    refine j_norm (fun v4 f5 f6 f7 => ?_)
    have f8 := zaI (j := (v4).toNat) hS0 (zr (k := 27) (t2 := 84) hG ha rfl) rfl (zlen hG (zr (k := 27) (t2 := 84) hG ha rfl) (n := 515) rfl rfl) (show 0 ≤ v4 by omega) (by omega) rfl
    refine j_iald hx hG (zr (k := 27) (t2 := 84) hG ha rfl) (by decide) rfl (zlen hG (zr (k := 27) (t2 := 84) hG ha rfl) (n := 515) rfl rfl) (by omega) (by omega) (j := (v4).toNat) rfl (v := (s0 (gP G a 27) (v4).toNat)) (by rw [(zFr_g hF_s2 (zr (k := 27) (t2 := 84) hG ha rfl) (by decide)), e_s1, zU_at (Or.inl (zne ha (zr (k := 27) (t2 := 84) hG ha rfl) (by decide)))]) dX12_row_27 ?_
    refine j_iconst hx dX12_row_28 ?_
    refine j_isub hx (r := (s0 (gP G a 27) (v4).toNat) - 1) dX12_row_29 (by omega) ?_
    refine j_norm (fun v9 f10 f11 f12 => ?_)
    refine j_callS hx (c_X12_within hst x2 0 v9) lk_RX12_314 [.int (zI x2), .int (zI 0), .int (zI v9)] ⟨rfl, hG, hS_s2, (by omega), (by omega), (by omega)⟩ rfl rfl ⟨by decide, by decide⟩ ⟨by decide, by decide⟩ (k2 := 0) (n2 := 0) rfl rfl (Nat.le_of_ble_eq_true rfl) dX12_row_30 (kIP (fun v13 q14 => ?_))
    refine j_if_eq hx 57 dX12_row_33 rfl (by omega) (fun h15 => ?_) (fun h15 => ?_)
    · skip
      refine j_iconst hx dX12_row_57 ?_
      exact j_iret hx hq rfl (by decide) (by decide) dX12_row_58 ⟨(-1), rfl, rfl, hS_s2, (zFr_t (zFr_u zFr_rf e_s1 ha (by decide)) hF_s2 (by decide)), (by omega)⟩
    · skip
      refine j_aload_n hx 0 dX12_row_36 rfl ?_
      refine g13_19 hx hG ha kf_RX12_50 dX12_row_37 ?_
      refine j_aload_n hx 0 dX12_row_40 rfl ?_
      refine g13_27 hx hG ha kf_RX12_56 dX12_row_41 ?_
      refine j_iconst hx dX12_row_44 ?_
      refine j_bipush hx dX12_row_45 rfl ?_
      refine j_iload_n hx 1 dX12_row_47 rfl ?_
      refine j_imul hx (r := 60 * x1) dX12_row_48 rfl ?_
      refine j_norm (fun v16 f17 f18 f19 => ?_)
      refine j_iadd hx (r := v16) dX12_row_49 (by omega) ?_
      refine j_iload_n hx 2 dX12_row_50 rfl ?_
      refine j_iadd hx (r := v16 + x2) dX12_row_51 rfl ?_
      refine j_norm (fun v20 f21 f22 f23 => ?_)
      have f24 := zaI (j := (v20).toNat) hS0 (zr (k := 27) (t2 := 84) hG ha rfl) rfl (zlen hG (zr (k := 27) (t2 := 84) hG ha rfl) (n := 515) rfl rfl) (show 0 ≤ v20 by omega) (by omega) rfl
      refine j_iald hx hG (zr (k := 27) (t2 := 84) hG ha rfl) (by decide) rfl (zlen hG (zr (k := 27) (t2 := 84) hG ha rfl) (n := 515) rfl rfl) (by omega) (by omega) (j := (v20).toNat) rfl (v := (s0 (gP G a 27) (v20).toNat)) (by rw [(zFr_g hF_s2 (zr (k := 27) (t2 := 84) hG ha rfl) (by decide)), e_s1, zU_at (Or.inl (zne ha (zr (k := 27) (t2 := 84) hG ha rfl) (by decide)))]) dX12_row_52 ?_
      have f25 := z0a (j := ((s0 (gP G a 27) (v20).toNat)).toNat) hF0 (zr (k := 19) (t2 := 82) hG ha rfl) rfl (zlen hG (zr (k := 19) (t2 := 82) hG ha rfl) (n := 60) rfl rfl) (show 0 ≤ (s0 (gP G a 27) (v20).toNat) by omega) (by omega) rfl
      refine j_iald hx hG (zr (k := 19) (t2 := 82) hG ha rfl) (by decide) rfl (zlen hG (zr (k := 19) (t2 := 82) hG ha rfl) (n := 60) rfl rfl) (by omega) (by omega) (j := ((s0 (gP G a 27) (v20).toNat)).toNat) rfl (v := (s0 (gP G a 19) ((s0 (gP G a 27) (v20).toNat)).toNat)) (by rw [(zFr_g hF_s2 (zr (k := 19) (t2 := 82) hG ha rfl) (by decide)), e_s1, zU_at (Or.inl (zne ha (zr (k := 19) (t2 := 82) hG ha rfl) (by decide)))]) dX12_row_53 ?_
      refine j_goto hx 58 dX12_row_54 rfl ?_
      exact j_iret hx hq rfl (by decide) (by decide) dX12_row_58 ⟨(s0 (gP G a 19) ((s0 (gP G a 27) (v20).toNat)).toNat), rfl, rfl, hS_s2, (zFr_t (zFr_u zFr_rf e_s1 ha (by decide)) hF_s2 (by decide)), (by omega)⟩
  · skip
    refine j_iconst hx dX12_row_14 ?_
    exact j_iret hx hq rfl (by decide) (by decide) dX12_row_15 ⟨0, rfl, rfl, hS_s2, (zFr_t (zFr_u zFr_rf e_s1 ha (by decide)) hF_s2 (by decide)), (by omega)⟩
