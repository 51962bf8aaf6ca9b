set_option maxHeartbeats 4000000 in
set_option maxRecDepth 20000 in
theorem c_X12_count {E : zE} {l : Launch} (hst : l.stackTraces = false) (a : Nat) (x1 : Int) : Con E l yX12_count cX12_count 2 (some .int) { frames := 0, cells := 0, slots := 0, locals := 0 } (fun G s vs => vs = [.ref a, .int (zI x1)] ∧ zGK G ∧ zSK G s ∧ (gT G a = 13) ∧ ((-2147483648) ≤ x1 ∧ x1 ≤ 2147483647) ∧ (zS0 G s)) (fun G s _ => pI (fun r G2 s2 => G2 = G ∧ zSK G s2 ∧ zFr [13] G s s2 ∧ ((-1) ≤ r ∧ r ≤ 0) ∧ (s2 a 0 = 0 ∧ ((0 ≤ x1 ∧ x1 ≤ 3 → r = 0) ∧ (¬ (0 ≤ x1 ∧ x1 ≤ 3) → r = -1))))) := by
  refine Con.mk hst (by decide) (fun G s vs h => by rw [h.1]; exact Nat.le_of_ble_eq_true rfl) ?_
  rintro X G s0 vs ⟨rfl, hG, hS0, ha, hx1, hF0⟩ rfl hx hq
  show JJ X E 2 G s0 0 0 [(0, .ref a), (1, .int (zI x1))] 0 []
  refine j_aload_n hx 0 dX12_count_0 rfl ?_
  refine j_iconst hx dX12_count_1 ?_
  refine p13_0 hx hG ha kf_RX12_3 dX12_count_2 ?_
  obtain ⟨s1, e_s1⟩ : ∃ z, z = zU s0 a 0 0 := ⟨_, rfl⟩
  rw [← e_s1]
  have hS_s1 : zSK G s1 := by rw [e_s1]; exact zSK_F hS0 ha rfl rfl rfl (by omega)
  refine j_iload_n hx 1 dX12_count_5 rfl ?_
  refine j_if_ne hx 16 dX12_count_6 rfl (by omega) (fun h1 => ?_) (fun h1 => ?_)
  · skip
    refine j_iload_n hx 1 dX12_count_16 rfl ?_
    refine j_iconst hx dX12_count_17 ?_
    refine j_icmp_ne hx 28 dX12_count_18 rfl (by omega) ⟨by decide, by decide⟩ (fun h2 => ?_) (fun h2 => ?_)
    · skip
      refine j_iload_n hx 1 dX12_count_28 rfl ?_
      refine j_iconst hx dX12_count_29 ?_
      refine j_icmp_ne hx 40 dX12_count_30 rfl (by omega) ⟨by decide, by decide⟩ (fun h3 => ?_) (fun h3 => ?_)
      · skip
        refine j_iload_n hx 1 dX12_count_40 rfl ?_
        refine j_iconst hx dX12_count_41 ?_
        refine j_icmp_ne hx 65 dX12_count_42 rfl (by omega) ⟨by decide, by decide⟩ (fun h4 => ?_) (fun h4 => ?_)
        · skip
          refine j_iconst hx dX12_count_65 ?_
          have g5 : s1 a 0 = 0 := (by rw [e_s1, zU_eq])
          exact j_iret hx hq rfl (by decide) (by decide) dX12_count_66 ⟨(-1), rfl, rfl, hS_s1, (zFr_u zFr_rf e_s1 ha (by decide)), ⟨(by omega), by omega⟩⟩
        · skip
          refine j_aload_n hx 0 dX12_count_45 rfl ?_
          refine g13_27 hx hG ha kf_RX12_56 dX12_count_46 ?_
          refine j_sipush hx dX12_count_49 rfl ?_
          have f6 := z0a (j := 488) hF0 (zr (k := 27) (t2 := 84) hG ha rfl) rfl (zlen hG (zr (k := 27) (t2 := 84) hG ha rfl) (n := 515) rfl rfl) (show 0 ≤ 488 by omega) (by omega) rfl
          refine j_iald hx hG (zr (k := 27) (t2 := 84) hG ha rfl) (by decide) rfl (zlen hG (zr (k := 27) (t2 := 84) hG ha rfl) (n := 515) rfl rfl) (by omega) (by omega) (j := 488) rfl (v := (s0 (gP G a 27) 488)) (by rw [e_s1, zU_at (Or.inl (zne ha (zr (k := 27) (t2 := 84) hG ha rfl) (by decide)))]) dX12_count_52 ?_
          refine j_aload_n hx 0 dX12_count_53 rfl ?_
          refine g13_28 hx hG ha kf_RX12_59 dX12_count_54 ?_
          refine j_sipush hx dX12_count_57 rfl ?_
          have f7 := z0a (j := 488) hF0 (zr (k := 28) (t2 := 85) hG ha rfl) rfl (zlen hG (zr (k := 28) (t2 := 85) hG ha rfl) (n := 515) rfl rfl) (show 0 ≤ 488 by omega) (by omega) rfl
          refine j_iald hx hG (zr (k := 28) (t2 := 85) hG ha rfl) (by decide) rfl (zlen hG (zr (k := 28) (t2 := 85) hG ha rfl) (n := 515) rfl rfl) (by omega) (by omega) (j := 488) rfl (v := (s0 (gP G a 28) 488)) (by rw [e_s1, zU_at (Or.inl (zne ha (zr (k := 28) (t2 := 85) hG ha rfl) (by decide)))]) dX12_count_60 ?_
          refine j_isub hx (r := (s0 (gP G a 27) 488) - (s0 (gP G a 28) 488)) dX12_count_61 (by omega) ?_
          refine j_goto hx 66 dX12_count_62 rfl ?_
          have g8 : s1 a 0 = 0 := (by rw [e_s1, zU_eq])
          exact j_iret hx hq rfl (by decide) (by decide) dX12_count_66 ⟨(s0 (gP G a 27) 488) - (s0 (gP G a 28) 488), rfl, rfl, hS_s1, (zFr_u zFr_rf e_s1 ha (by decide)), ⟨(by omega), by omega⟩⟩
      · skip
        refine j_aload_n hx 0 dX12_count_33 rfl ?_
        have f9 := z0f hF0 ha (k := 41) rfl
        refine g13_41 hx hG ha kf_RX12_198 (v := (s0 a 41)) (by rw [e_s1, zU_at (Or.inr (by decide))]) dX12_count_34 ?_
        refine j_goto hx 66 dX12_count_37 rfl ?_
        have g10 : s1 a 0 = 0 := (by rw [e_s1, zU_eq])
        exact j_iret hx hq rfl (by decide) (by decide) dX12_count_66 ⟨(s0 a 41), rfl, rfl, hS_s1, (zFr_u zFr_rf e_s1 ha (by decide)), ⟨(by omega), by omega⟩⟩
    · skip
      refine j_aload_n hx 0 dX12_count_21 rfl ?_
      have f11 := z0f hF0 ha (k := 2) rfl
      refine g13_2 hx hG ha kf_RX12_134 (v := (s0 a 2)) (by rw [e_s1, zU_at (Or.inr (by decide))]) dX12_count_22 ?_
      refine j_goto hx 66 dX12_count_25 rfl ?_
      have g12 : s1 a 0 = 0 := (by rw [e_s1, zU_eq])
      exact j_iret hx hq rfl (by decide) (by decide) dX12_count_66 ⟨(s0 a 2), rfl, rfl, hS_s1, (zFr_u zFr_rf e_s1 ha (by decide)), ⟨(by omega), by omega⟩⟩
  · skip
    refine j_aload_n hx 0 dX12_count_9 rfl ?_
    have f13 := z0f hF0 ha (k := 58) rfl
    refine g13_58 hx hG ha kf_RX12_201 (v := (s0 a 58)) (by rw [e_s1, zU_at (Or.inr (by decide))]) dX12_count_10 ?_
    refine j_goto hx 66 dX12_count_13 rfl ?_
    have g14 : s1 a 0 = 0 := (by rw [e_s1, zU_eq])
    exact j_iret hx hq rfl (by decide) (by decide) dX12_count_66 ⟨(s0 a 58), rfl, rfl, hS_s1, (zFr_u zFr_rf e_s1 ha (by decide)), ⟨(by omega), by omega⟩⟩

set_option maxHeartbeats 4000000 in
set_option maxRecDepth 20000 in
theorem c_X12_thrown {E : zE} {l : Launch} (hst : l.stackTraces = false) (a : Nat) : Con E l yX12_thrown cX12_thrown 1 (some .int) { frames := 0, cells := 0, slots := 0, locals := 0 } (fun G s vs => vs = [.ref a] ∧ zGK G ∧ zSK G s ∧ (gT G a = 13)) (fun G s _ => pI (fun r G2 s2 => G2 = G ∧ s2 = s ∧ ((-2147483648) ≤ r ∧ r ≤ 2147483647))) := by
  refine Con.mk hst (by decide) (fun G s vs h => by rw [h.1]; exact Nat.le_of_ble_eq_true rfl) ?_
  rintro X G s0 vs ⟨rfl, hG, hS0, ha⟩ rfl hx hq
  show JJ X E 1 G s0 0 0 [(0, .ref a)] 0 []
  refine j_aload_n hx 0 dX12_thrown_0 rfl ?_
  have f1 := zf hS0 ha (k := 0) rfl
  refine g13_0 hx hG ha kf_RX12_3 rfl dX12_thrown_1 ?_
  exact j_iret hx hq rfl (by decide) (by decide) dX12_thrown_4 ⟨(s0 a 0), rfl, rfl, rfl, (by omega)⟩
