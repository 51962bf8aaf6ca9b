set_option maxHeartbeats 4000000 in
set_option maxRecDepth 20000 in
theorem c_X12_within {E : zE} {l : Launch} (hst : l.stackTraces = false) (x0 : Int) (x1 : Int) (x2 : Int) : Con E l yX12_within cX12_within 3 (some .boolean) { frames := 0, cells := 0, slots := 0, locals := 0 } (fun G s vs => vs = [.int (zI x0), .int (zI x1), .int (zI x2)] ∧ zGK G ∧ zSK G s ∧ ((-2147483648) ≤ x0 ∧ x0 ≤ 2147483647) ∧ ((-2147483648) ≤ x1 ∧ x1 ≤ 2147483647) ∧ ((-2147483648) ≤ x2 ∧ x2 ≤ 2147483647)) (fun G s _ => pI (fun r G2 s2 => G2 = G ∧ s2 = s ∧ (0 ≤ r ∧ r ≤ 1) ∧ ((r = 1 → x1 ≤ x0 ∧ x0 ≤ x2) ∧ (r = 0 → x0 < x1 ∨ x2 < x0)))) := by
  refine Con.mk hst (by decide) (fun G s vs h => by rw [h.1]; exact Nat.le_of_ble_eq_true rfl) ?_
  rintro X G s0 vs ⟨rfl, hG, hS0, hx0, hx1, hx2⟩ rfl hx hq
  show JJ X E 3 G s0 0 0 [(0, .int (zI x0)), (1, .int (zI x1)), (2, .int (zI x2))] 0 []
  refine j_iload_n hx 0 dX12_within_0 rfl ?_
  refine j_iload_n hx 1 dX12_within_1 rfl ?_
  refine j_icmp_lt hx 14 dX12_within_2 rfl (by omega) (by omega) (fun h1 => ?_) (fun h1 => ?_)
  · skip
    refine j_iconst hx dX12_within_14 ?_
    exact j_zret hx hq rfl (by decide) (by decide) dX12_within_15 (by omega) ⟨0, rfl, rfl, rfl, ⟨(by omega), by omega⟩⟩
  · skip
    refine j_iload_n hx 0 dX12_within_5 rfl ?_
    refine j_iload_n hx 2 dX12_within_6 rfl ?_
    refine j_icmp_gt hx 14 dX12_within_7 rfl (by omega) (by omega) (fun h2 => ?_) (fun h2 => ?_)
    · skip
      refine j_iconst hx dX12_within_14 ?_
      exact j_zret hx hq rfl (by decide) (by decide) dX12_within_15 (by omega) ⟨0, rfl, rfl, rfl, ⟨(by omega), by omega⟩⟩
    · skip
      refine j_iconst hx dX12_within_10 ?_
      refine j_goto hx 15 dX12_within_11 rfl ?_
      exact j_zret hx hq rfl (by decide) (by decide) dX12_within_15 (by omega) ⟨1, rfl, rfl, rfl, ⟨(by omega), by omega⟩⟩

set_option maxHeartbeats 4000000 in
set_option maxRecDepth 20000 in
theorem c_X12_opensOne {E : zE} {l : Launch} (hst : l.stackTraces = false) (a : Nat) (x1 : Int) : Con E l yX12_opensOne cX12_opensOne 2 none { frames := 1, cells := 0, slots := 0, locals := 22 } (fun G s vs => vs = [.ref a, .int (zI x1)] ∧ zGK G ∧ zSK G s ∧ (gT G a = 13) ∧ (1 ≤ x1 ∧ x1 ≤ 3) ∧ (s a 4 ≤ 600)) (fun G s _ => pV (fun G2 s2 => G2 = G ∧ zSK G s2 ∧ zFr [13] G s s2 ∧ s a 4 ≤ s2 a 4 ∧ 0 ≤ s a 5 → 0 ≤ s2 a 5 ∧ s2 a 7 = s a 7 + 1 ∧ (s2 a 5 = -1 → (s a 7 ≠ 6 ∧ s2 a 4 = s a 4 + x1 ∧ s a 5 = -1)) ∧ s2 a 4 ≤ s a 4 + x1 ∧ s2 a 0 = s a 0 ∧ s2 a 3 = s a 3 ∧ s2 a 21 = s a 21 ∧ s2 a 22 = s a 22 ∧ s2 a 23 = s a 23 ∧ s2 a 24 = s a 24 ∧ s2 a 38 = s a 38 ∧ s2 a 51 = s a 51 ∧ s2 a 52 = s a 52)) := by
  refine Con.mk hst (by decide) (fun G s vs h => by rw [h.1]; exact Nat.le_of_ble_eq_true rfl) ?_
  rintro X G s0 vs ⟨rfl, hG, hS0, ha, hx1, e0⟩ rfl hx hq
  show JJ X E 2 G s0 0 0 [(0, .ref a), (1, .int (zI x1))] 0 []
  refine j_aload_n hx 0 dX12_opensOne_0 rfl ?_
  refine j_callV hx hG (c_X12_fine hst a) lk_RX12_166 ha (by decide) rfl rfl rfl rfl [] ⟨rfl, hG, hS0, ha⟩ rfl rfl ⟨by decide, by decide⟩ ⟨by decide, by decide⟩ (k2 := 0) (n2 := 0) rfl rfl (Nat.le_of_ble_eq_true rfl) dX12_opensOne_1 (kIP (fun v1 q2 => ?_))
  have f3 := zf hS0 ha (k := 0) rfl
  have f4 := zf hS0 ha (k := 3) rfl
  have f5 := zf hS0 ha (k := 4) rfl
  have f6 := zf hS0 ha (k := 7) rfl
  have f7 := zf hS0 ha (k := 21) rfl
  have f8 := zf hS0 ha (k := 22) rfl
  have f9 := zf hS0 ha (k := 23) rfl
  have f10 := zf hS0 ha (k := 24) rfl
  have f11 := zf hS0 ha (k := 38) rfl
  have f12 := zf hS0 ha (k := 51) rfl
  have f13 := zf hS0 ha (k := 52) rfl
  have c25_1 : ∀ (s2 : zS), (zSK G s2) → (zFr [13] G s0 s2) → (s2 a 0 = s0 a 0) → (s2 a 3 = s0 a 3) → (s2 a 4 = s0 a 4) → (s2 a 7 = s0 a 7) → (s2 a 21 = s0 a 21) → (s2 a 22 = s0 a 22) → (s2 a 23 = s0 a 23) → (s2 a 24 = s0 a 24) → (s2 a 38 = s0 a 38) → (s2 a 51 = s0 a 51) → (s2 a 52 = s0 a 52) → JJ X E 2 G s2 0 0 [(0, .ref a), (1, .int (zI x1))] 25 [] := by
    intro s2 hS_s2 hF_s2 fA5 fA6 fA7 fA8 fA9 fA10 fA11 fA12 fA13 fA14 fA15
    refine j_aload_n hx 0 dX12_opensOne_25 rfl ?_
    refine j_callV hx hG (c_X12_fine hst a) lk_RX12_166 ha (by decide) rfl rfl rfl rfl [] ⟨rfl, hG, hS_s2, ha⟩ rfl rfl ⟨by decide, by decide⟩ ⟨by decide, by decide⟩ (k2 := 0) (n2 := 0) rfl rfl (Nat.le_of_ble_eq_true rfl) dX12_opensOne_26 (kIP (fun v14 q15 => ?_))
    refine j_if_eq hx 42 dX12_opensOne_29 rfl (by omega) (fun h16 => ?_) (fun h16 => ?_)
    · skip
      refine j_aload_n hx 0 dX12_opensOne_42 rfl ?_
      refine j_dup hx dX12_opensOne_43 rfl ?_
      have f17 := zf hS_s2 ha (k := 7) rfl
      refine g13_7 hx hG ha kf_RX12_177 rfl dX12_opensOne_44 ?_
      refine j_iconst hx dX12_opensOne_47 ?_
      refine j_iadd hx (r := (s2 a 7) + 1) dX12_opensOne_48 (by omega) ?_
      refine p13_7 hx hG ha kf_RX12_177 dX12_opensOne_49 ?_
      obtain ⟨s16, e_s16⟩ : ∃ z, z = zU s2 a 7 ((s2 a 7) + 1) := ⟨_, rfl⟩
      rw [← e_s16]
      have hS_s16 : zSK G s16 := by rw [e_s16]; exact zSK_F hS_s2 ha rfl rfl rfl (by omega)
      have g18 : s16 a 4 = s2 a 4 := (by rw [e_s16, zU_at (Or.inr (by decide))])
      have f19 := zf hS_s2 ha (k := 4) rfl
      have g20 : s16 a 5 = s2 a 5 := (by rw [e_s16, zU_at (Or.inr (by decide))])
      have f21 := zf hS_s2 ha (k := 5) rfl
      have g22 : s16 a 7 = (s2 a 7) + 1 := (by rw [e_s16, zU_eq])
      have g23 : s16 a 0 = s2 a 0 := (by rw [e_s16, zU_at (Or.inr (by decide))])
      have f24 := zf hS_s2 ha (k := 0) rfl
      have g25 : s16 a 3 = s2 a 3 := (by rw [e_s16, zU_at (Or.inr (by decide))])
      have f26 := zf hS_s2 ha (k := 3) rfl
      have g27 : s16 a 21 = s2 a 21 := (by rw [e_s16, zU_at (Or.inr (by decide))])
      have f28 := zf hS_s2 ha (k := 21) rfl
      have g29 : s16 a 22 = s2 a 22 := (by rw [e_s16, zU_at (Or.inr (by decide))])
      have f30 := zf hS_s2 ha (k := 22) rfl
      have g31 : s16 a 23 = s2 a 23 := (by rw [e_s16, zU_at (Or.inr (by decide))])
      have f32 := zf hS_s2 ha (k := 23) rfl
      have g33 : s16 a 24 = s2 a 24 := (by rw [e_s16, zU_at (Or.inr (by decide))])
      have f34 := zf hS_s2 ha (k := 24) rfl
      have g35 : s16 a 38 = s2 a 38 := (by rw [e_s16, zU_at (Or.inr (by decide))])
      have f36 := zf hS_s2 ha (k := 38) rfl
      have g37 : s16 a 51 = s2 a 51 := (by rw [e_s16, zU_at (Or.inr (by decide))])
      have f38 := zf hS_s2 ha (k := 51) rfl
      have g39 : s16 a 52 = s2 a 52 := (by rw [e_s16, zU_at (Or.inr (by decide))])
      have f40 := zf hS_s2 ha (k := 52) rfl
      exact j_vret hx hq rfl (by decide) (by decide) dX12_opensOne_52 ⟨rfl, rfl, hS_s16, (zFr_u (zFr_t zFr_rf hF_s2 (by decide)) e_s16 ha (by decide)), ⟨by omega, by omega, by omega, by omega, by omega, by omega, by omega, by omega, by omega, by omega, by omega, by omega, by omega, by omega⟩⟩
    · skip
      refine j_aload_n hx 0 dX12_opensOne_32 rfl ?_
      refine j_dup hx dX12_opensOne_33 rfl ?_
      have f41 := zf hS_s2 ha (k := 4) rfl
      refine g13_4 hx hG ha kf_RX12_143 rfl dX12_opensOne_34 ?_
      refine j_iload_n hx 1 dX12_opensOne_37 rfl ?_
      refine j_iadd hx (r := (s2 a 4) + x1) dX12_opensOne_38 (by omega) ?_
      refine p13_4 hx hG ha kf_RX12_143 dX12_opensOne_39 ?_
      obtain ⟨s17, e_s17⟩ : ∃ z, z = zU s2 a 4 ((s2 a 4) + x1) := ⟨_, rfl⟩
      rw [← e_s17]
      have hS_s17 : zSK G s17 := by rw [e_s17]; exact zSK_F hS_s2 ha rfl rfl rfl (by omega)
      refine j_aload_n hx 0 dX12_opensOne_42 rfl ?_
      refine j_dup hx dX12_opensOne_43 rfl ?_
      have f42 := zf hS_s2 ha (k := 7) rfl
      refine g13_7 hx hG ha kf_RX12_177 (v := (s2 a 7)) (by rw [e_s17, zU_at (Or.inr (by decide))]) dX12_opensOne_44 ?_
      refine j_iconst hx dX12_opensOne_47 ?_
      refine j_iadd hx (r := (s2 a 7) + 1) dX12_opensOne_48 (by omega) ?_
      refine p13_7 hx hG ha kf_RX12_177 dX12_opensOne_49 ?_
      obtain ⟨s18, e_s18⟩ : ∃ z, z = zU s17 a 7 ((s2 a 7) + 1) := ⟨_, rfl⟩
      rw [← e_s18]
      have hS_s18 : zSK G s18 := by rw [e_s18]; exact zSK_F hS_s17 ha rfl rfl rfl (by omega)
      have g43 : s18 a 4 = (s2 a 4) + x1 := (by rw [e_s18, zU_at (Or.inr (by decide)), e_s17, zU_eq])
      have g44 : s18 a 5 = s2 a 5 := (by rw [e_s18, zU_at (Or.inr (by decide)), e_s17, zU_at (Or.inr (by decide))])
      have f45 := zf hS_s2 ha (k := 5) rfl
      have g46 : s18 a 7 = (s2 a 7) + 1 := (by rw [e_s18, zU_eq])
      have g47 : s18 a 0 = s2 a 0 := (by rw [e_s18, zU_at (Or.inr (by decide)), e_s17, zU_at (Or.inr (by decide))])
      have f48 := zf hS_s2 ha (k := 0) rfl
      have g49 : s18 a 3 = s2 a 3 := (by rw [e_s18, zU_at (Or.inr (by decide)), e_s17, zU_at (Or.inr (by decide))])
      have f50 := zf hS_s2 ha (k := 3) rfl
      have g51 : s18 a 21 = s2 a 21 := (by rw [e_s18, zU_at (Or.inr (by decide)), e_s17, zU_at (Or.inr (by decide))])
      have f52 := zf hS_s2 ha (k := 21) rfl
      have g53 : s18 a 22 = s2 a 22 := (by rw [e_s18, zU_at (Or.inr (by decide)), e_s17, zU_at (Or.inr (by decide))])
      have f54 := zf hS_s2 ha (k := 22) rfl
      have g55 : s18 a 23 = s2 a 23 := (by rw [e_s18, zU_at (Or.inr (by decide)), e_s17, zU_at (Or.inr (by decide))])
      have f56 := zf hS_s2 ha (k := 23) rfl
      have g57 : s18 a 24 = s2 a 24 := (by rw [e_s18, zU_at (Or.inr (by decide)), e_s17, zU_at (Or.inr (by decide))])
      have f58 := zf hS_s2 ha (k := 24) rfl
      have g59 : s18 a 38 = s2 a 38 := (by rw [e_s18, zU_at (Or.inr (by decide)), e_s17, zU_at (Or.inr (by decide))])
      have f60 := zf hS_s2 ha (k := 38) rfl
      have g61 : s18 a 51 = s2 a 51 := (by rw [e_s18, zU_at (Or.inr (by decide)), e_s17, zU_at (Or.inr (by decide))])
      have f62 := zf hS_s2 ha (k := 51) rfl
      have g63 : s18 a 52 = s2 a 52 := (by rw [e_s18, zU_at (Or.inr (by decide)), e_s17, zU_at (Or.inr (by decide))])
      have f64 := zf hS_s2 ha (k := 52) rfl
      exact j_vret hx hq rfl (by decide) (by decide) dX12_opensOne_52 ⟨rfl, rfl, hS_s18, (zFr_u (zFr_u (zFr_t zFr_rf hF_s2 (by decide)) e_s17 ha (by decide)) e_s18 ha (by decide)), ⟨by omega, by omega, by omega, by omega, by omega, by omega, by omega, by omega, by omega, by omega, by omega, by omega, by omega, by omega⟩⟩
  refine j_if_eq hx 25 dX12_opensOne_4 rfl (by omega) (fun h65 => ?_) (fun h65 => ?_)
  · skip
    exact j_sub [0, 1] [(0, .ref a), (1, .int (zI x1))] rfl (c25_1 s0 hS0 zFr_rf (by omega) (by omega) (by omega) (by omega) (by omega) (by omega) (by omega) (by omega) (by omega) (by omega) (by omega))
  · skip
    refine j_aload_n hx 0 dX12_opensOne_7 rfl ?_
    refine g13_7 hx hG ha kf_RX12_177 rfl dX12_opensOne_8 ?_
    refine j_bipush hx dX12_opensOne_11 rfl ?_
    refine j_icmp_ne hx 25 dX12_opensOne_13 rfl (by omega) ⟨by decide, by decide⟩ (fun h66 => ?_) (fun h66 => ?_)
    · skip
      exact j_sub [0, 1] [(0, .ref a), (1, .int (zI x1))] rfl (c25_1 s0 hS0 zFr_rf (by omega) (by omega) (by omega) (by omega) (by omega) (by omega) (by omega) (by omega) (by omega) (by omega) (by omega))
    · skip
      refine j_aload_n hx 0 dX12_opensOne_16 rfl ?_
      refine j_iconst hx dX12_opensOne_17 ?_
      refine j_aload_n hx 0 dX12_opensOne_18 rfl ?_
      refine g13_4 hx hG ha kf_RX12_143 rfl dX12_opensOne_19 ?_
      refine j_callV hx hG (c_X12_wrong hst a 3 ((s0 a 4))) lk_RX12_173 ha (by decide) rfl rfl rfl rfl [.int (zI 3), .int (zI ((s0 a 4)))] ⟨rfl, hG, hS0, ha, (by omega), (by omega)⟩ rfl rfl ⟨by decide, by decide⟩ ⟨by decide, by decide⟩ (k2 := 0) (n2 := 0) rfl rfl (Nat.le_of_ble_eq_true rfl) dX12_opensOne_22 (kVM (fun s19 hS_s19 hF_s19 q68 => ?_))
      have f69 := zf hS_s19 ha (k := 0) rfl
      have f70 := zf hS_s19 ha (k := 3) rfl
      have f71 := zf hS_s19 ha (k := 4) rfl
      have f72 := zf hS_s19 ha (k := 7) rfl
      have f73 := zf hS_s19 ha (k := 21) rfl
      have f74 := zf hS_s19 ha (k := 22) rfl
      have f75 := zf hS_s19 ha (k := 23) rfl
      have f76 := zf hS_s19 ha (k := 24) rfl
      have f77 := zf hS_s19 ha (k := 38) rfl
      have f78 := zf hS_s19 ha (k := 51) rfl
      have f79 := zf hS_s19 ha (k := 52) rfl
      exact j_sub [0, 1] [(0, .ref a), (1, .int (zI x1))] rfl (c25_1 s19 hS_s19 (zFr_t zFr_rf hF_s19 (by decide)) (by omega) (by omega) (by omega) (by omega) (by omega) (by omega) (by omega) (by omega) (by omega) (by omega) (by omega))

set_option maxHeartbeats 4000000 in
set_option maxRecDepth 20000 in
theorem c_X12_fine_n {E : zE} {l : Launch} (hst : l.stackTraces = false) (a : Nat) : Con E l yX12_fine cX12_fine 1 (some .boolean) { frames := 0, cells := 0, slots := 0, locals := 0 } (fun G s vs => vs = [.ref a] ∧ zGK G ∧ zSK G s ∧ (gT G a = 13) ∧ (0 ≤ s a 5)) (fun G s _ => pI (fun r G2 s2 => G2 = G ∧ s2 = s ∧ (0 ≤ r ∧ r ≤ 0))) := by
  refine Con.mk hst (by decide) (fun G s vs h => by rw [h.1]; exact Nat.le_of_ble_eq_true rfl) ?_
  rintro X G s0 vs ⟨rfl, hG, hS0, ha, e0⟩ rfl hx hq
  show JJ X E 1 G s0 0 0 [(0, .ref a)] 0 []
  refine j_aload_n hx 0 dX12_fine_0 rfl ?_
  have f1 := zf hS0 ha (k := 5) rfl
  refine g13_5 hx hG ha kf_RX12_137 rfl dX12_fine_1 ?_
  refine j_iconst hx dX12_fine_4 ?_
  refine j_icmp_ne hx 12 dX12_fine_5 rfl (by omega) ⟨by decide, by decide⟩ (fun h2 => ?_) (fun h2 => ?_)
  · skip
    refine j_iconst hx dX12_fine_12 ?_
    exact j_zret hx hq rfl (by decide) (by decide) dX12_fine_13 (by omega) ⟨0, rfl, rfl, rfl, (by omega)⟩
  · skip
    refine j_iconst hx dX12_fine_8 ?_
    refine j_goto hx 13 dX12_fine_9 rfl ?_
    exact j_zret hx hq rfl (by decide) (by decide) dX12_fine_13 (by omega) ⟨1, rfl, rfl, rfl, (by omega)⟩

set_option maxHeartbeats 4000000 in
set_option maxRecDepth 20000 in
theorem c_X12_readOne_7 {E : zE} {l : Launch} (hst : l.stackTraces = false) (a : Nat) : Con E l yX12_readOne cX12_readOne 4 none { frames := 1, cells := 0, slots := 0, locals := 20 } (fun G s vs => vs = [.ref a] ∧ zGK G ∧ zSK G s ∧ (gT G a = 13) ∧ (s a 7 = 7) ∧ (s a 3 ≤ 150) ∧ (s a 4 ≤ s a 3 + 2) ∧ (s a 5 = -1 → s a 38 ≤ s a 4) ∧ (zNv (s a 5) (s (gP G a 31)) (s (gP G a 32)) (s a 38)) ∧ (0 ≤ s a 5)) (fun G s _ => pV (fun G2 s2 => G2 = G ∧ s2 = s ∧ s a 4 ≤ s2 a 4 ∧ 0 ≤ s a 5 → 0 ≤ s2 a 5 ∧ s2 a 4 ≤ s a 3 + 2 ∧ s2 a 7 = 7 ∧ (s2 a 5 = -1 → (zRp (s2 (gP G a 31)) 0 (s2 a 38).toNat = zRp (s (gP G a 31)) 0 (s a 38).toNat + 1 ∧ s a 38 + 1 ≤ s2 a 38 ∧ s2 a 38 - s a 38 ≤ s2 a 4 - s a 4 ∧ s2 a 4 ≤ s a 3)) ∧ zNv (s2 a 5) (s2 (gP G a 31)) (s2 (gP G a 32)) (s2 a 38))) := by
  refine Con.mk hst (by decide) (fun G s vs h => by rw [h.1]; exact Nat.le_of_ble_eq_true rfl) ?_
  rintro X G s0 vs ⟨rfl, hG, hS0, ha, e0, e1, e2, e3, e4, e5⟩ rfl hx hq
  show JJ X E 4 G s0 0 0 [(0, .ref a)] 0 []
  refine j_aload_n hx 0 dX12_readOne_0 rfl ?_
  have f1 := zf hS0 ha (k := 5) rfl
  refine j_callV hx hG (c_X12_fine_n hst a) lk_RX12_166 ha (by decide) rfl rfl rfl rfl [] ⟨rfl, hG, hS0, ha, (by omega)⟩ rfl rfl ⟨by decide, by decide⟩ ⟨by decide, by decide⟩ (k2 := 0) (n2 := 0) rfl rfl (Nat.le_of_ble_eq_true rfl) dX12_readOne_1 (kIP (fun v2 q3 => ?_))
  refine j_if_ne hx 8 dX12_readOne_4 rfl (by omega) (fun h4 => absurd h4 (by omega)) (fun h4 => ?_)
  have f5 := zf hS0 ha (k := 4) rfl
  have f6 := zf hS0 ha (k := 3) rfl
  have f7 := zf hS0 ha (k := 38) rfl
  exact j_vret hx hq rfl (by decide) (by decide) dX12_readOne_7 ⟨rfl, rfl, rfl, ⟨by omega, by omega, by omega, by omega, by omega, (zNv_k e4 (by omega) (by omega))⟩⟩

theorem lk_RX12_281 : LkV RX12 281 RX12 yX12_readOne cX12_readOne 4 none 0 := ⟨km_RX12_281, ki_yX12_readOne, ks_RX12_yX12_readOne, kn_RX12, kc_yX12_readOne, rfl, by decide +kernel, by decide +kernel, by decide +kernel⟩
set_option maxHeartbeats 4000000 in
set_option maxRecDepth 20000 in
theorem c_X12_readAll_7 {E : zE} {l : Launch} (hst : l.stackTraces = false) (a : Nat) : Con E l yX12_readAll cX12_readAll 1 none { frames := 2, cells := 0, slots := 0, locals := 43 } (fun G s vs => vs = [.ref a] ∧ zGK G ∧ zSK G s ∧ (gT G a = 13) ∧ (s a 7 = 7) ∧ (s a 3 ≤ 150) ∧ (s a 4 ≤ s a 3 + 2) ∧ (s a 5 = -1 → s a 38 ≤ s a 4) ∧ (zNv (s a 5) (s (gP G a 31)) (s (gP G a 32)) (s a 38)) ∧ (0 ≤ s a 5)) (fun G s _ => pV (fun G2 s2 => G2 = G ∧ s2 = s ∧ s a 4 ≤ s2 a 4 ∧ 0 ≤ s a 5 → 0 ≤ s2 a 5 ∧ s2 a 4 ≤ s a 3 + 2 ∧ s2 a 7 = 7 ∧ (s2 a 5 = -1 → (zRp (s2 (gP G a 31)) 0 (s2 a 38).toNat = zRp (s (gP G a 31)) 0 (s a 38).toNat + 1 ∧ s a 38 + 1 ≤ s2 a 38 ∧ s2 a 38 - s a 38 ≤ s2 a 4 - s a 4 ∧ s2 a 4 ≤ s a 3)) ∧ zNv (s2 a 5) (s2 (gP G a 31)) (s2 (gP G a 32)) (s2 a 38))) := by
  refine Con.mk hst (by decide) (fun G s vs h => by rw [h.1]; exact Nat.le_of_ble_eq_true rfl) ?_
  rintro X G s0 vs ⟨rfl, hG, hS0, ha, e0, e1, e2, e3, e4, e5⟩ rfl hx hq
  show JJ X E 1 G s0 0 0 [(0, .ref a)] 0 []
  refine j_aload_n hx 0 dX12_readAll_0 rfl ?_
  have f1 := zf hS0 ha (k := 3) rfl
  have f2 := zf hS0 ha (k := 4) rfl
  have f3 := zf hS0 ha (k := 5) rfl
  have f4 := zf hS0 ha (k := 38) rfl
  refine j_callV hx hG (c_X12_readOne_7 hst a) lk_RX12_281 ha (by decide) rfl rfl rfl rfl [] ⟨rfl, hG, hS0, ha, (by omega), (by omega), (by omega), (by omega), ((zNv_k e4 (by omega) (by omega))), (by omega)⟩ rfl rfl ⟨by decide, by decide⟩ ⟨by decide, by decide⟩ (k2 := 0) (n2 := 0) rfl rfl (Nat.le_of_ble_eq_true rfl) dX12_readAll_1 (kVP (fun q6 => ?_))
  have z7 := tOf_ne 16 (by decide)
  refine j_aload_n hx 0 dX12_readAll_4 rfl ?_
  refine j_callV hx hG (c_X12_fine_n hst a) lk_RX12_166 ha (by decide) rfl rfl rfl rfl [] ⟨rfl, hG, hS0, ha, (by omega)⟩ rfl rfl ⟨by decide, by decide⟩ ⟨by decide, by decide⟩ (k2 := 0) (n2 := 0) rfl rfl (Nat.le_of_ble_eq_true rfl) dX12_readAll_5 (kIP (fun v8 q9 => ?_))
  refine j_if_eq hx 43 dX12_readAll_8 rfl (by omega) (fun h10 => ?_) (fun h10 => absurd h10 (by omega))
  exact j_vret hx hq rfl (by decide) (by decide) dX12_readAll_43 ⟨rfl, rfl, rfl, ⟨by omega, by omega, by omega, by omega, by omega, (zNv_k q6.2.2.2.2.2 (by omega) (by omega))⟩⟩

theorem lk_RX12_272 : LkV RX12 272 RX12 yX12_readAll cX12_readAll 1 none 0 := ⟨km_RX12_272, ki_yX12_readAll, ks_RX12_yX12_readAll, kn_RX12, kc_yX12_readAll, rfl, by decide +kernel, by decide +kernel, by decide +kernel⟩
set_option maxHeartbeats 4000000 in
set_option maxRecDepth 20000 in
theorem c_X12_readAny_7 {E : zE} {l : Launch} (hst : l.stackTraces = false) (a : Nat) : Con E l yX12_readAny cX12_readAny 1 none { frames := 3, cells := 0, slots := 0, locals := 63 } (fun G s vs => vs = [.ref a] ∧ zGK G ∧ zSK G s ∧ (gT G a = 13) ∧ (s a 7 = 7) ∧ (s a 3 ≤ 150) ∧ (s a 4 ≤ s a 3 + 2) ∧ (s a 5 = -1 → s a 38 ≤ s a 4) ∧ (zNv (s a 5) (s (gP G a 31)) (s (gP G a 32)) (s a 38)) ∧ (0 ≤ s a 5)) (fun G s _ => pV (fun G2 s2 => G2 = G ∧ s2 = s ∧ s a 4 ≤ s2 a 4 ∧ 0 ≤ s a 5 → 0 ≤ s2 a 5 ∧ s2 a 4 ≤ s a 3 + 2 ∧ s2 a 7 = 7 ∧ (s2 a 5 = -1 → (zRp (s2 (gP G a 31)) 0 (s2 a 38).toNat = zRp (s (gP G a 31)) 0 (s a 38).toNat + 1 ∧ s a 38 + 1 ≤ s2 a 38 ∧ s2 a 38 - s a 38 ≤ s2 a 4 - s a 4 ∧ s2 a 4 ≤ s a 3)) ∧ zNv (s2 a 5) (s2 (gP G a 31)) (s2 (gP G a 32)) (s2 a 38))) := by
  refine Con.mk hst (by decide) (fun G s vs h => by rw [h.1]; exact Nat.le_of_ble_eq_true rfl) ?_
  rintro X G s0 vs ⟨rfl, hG, hS0, ha, e0, e1, e2, e3, e4, e5⟩ rfl hx hq
  show JJ X E 1 G s0 0 0 [(0, .ref a)] 0 []
  refine j_aload_n hx 0 dX12_readAny_0 rfl ?_
  have f1 := zf hS0 ha (k := 3) rfl
  have f2 := zf hS0 ha (k := 4) rfl
  have f3 := zf hS0 ha (k := 5) rfl
  have f4 := zf hS0 ha (k := 38) rfl
  refine j_callV hx hG (c_X12_readAll_7 hst a) lk_RX12_272 ha (by decide) rfl rfl rfl rfl [] ⟨rfl, hG, hS0, ha, (by omega), (by omega), (by omega), (by omega), ((zNv_k e4 (by omega) (by omega))), (by omega)⟩ rfl rfl ⟨by decide, by decide⟩ ⟨by decide, by decide⟩ (k2 := 0) (n2 := 0) rfl rfl (Nat.le_of_ble_eq_true rfl) dX12_readAny_1 (kVP (fun q6 => ?_))
  have z7 := tOf_ne 17 (by decide)
  refine j_aload_n hx 0 dX12_readAny_4 rfl ?_
  refine j_callV hx hG (c_X12_fine_n hst a) lk_RX12_166 ha (by decide) rfl rfl rfl rfl [] ⟨rfl, hG, hS0, ha, (by omega)⟩ rfl rfl ⟨by decide, by decide⟩ ⟨by decide, by decide⟩ (k2 := 0) (n2 := 0) rfl rfl (Nat.le_of_ble_eq_true rfl) dX12_readAny_5 (kIP (fun v8 q9 => ?_))
  refine j_if_eq hx 43 dX12_readAny_8 rfl (by omega) (fun h10 => ?_) (fun h10 => absurd h10 (by omega))
  exact j_vret hx hq rfl (by decide) (by decide) dX12_readAny_43 ⟨rfl, rfl, rfl, ⟨by omega, by omega, by omega, by omega, by omega, (zNv_k q6.2.2.2.2.2 (by omega) (by omega))⟩⟩

set_option maxHeartbeats 4000000 in
set_option maxRecDepth 20000 in
theorem c_X12_emit {E : zE} {l : Launch} (hst : l.stackTraces = false) (a : Nat) (x1 : Int) (x2 : Int) (x3 : Int) : Con E l yX12_emit cX12_emit 4 none { frames := 1, cells := 0, slots := 0, locals := 20 } (fun G s vs => vs = [.ref a, .int (zI x1), .int (zI x2), .int (zI x3)] ∧ zGK G ∧ zSK G s ∧ (gT G a = 13) ∧ (0 ≤ x1 ∧ x1 ≤ 22) ∧ ((-2147483648) ≤ x2 ∧ x2 ≤ 2147483647) ∧ ((-2147483648) ≤ x3 ∧ x3 ≤ 2147483647) ∧ (s a 5 = -1 → s a 38 ≤ 149) ∧ (zNv (s a 5) (s (gP G a 31)) (s (gP G a 32)) (s a 38)) ∧ (s a 5 = -1 → ((x1 = 20 → 1 ≤ zRp (s (gP G a 31)) 0 (s a 38).toNat) ∧ (20 < x1 → 2 ≤ zRp (s (gP G a 31)) 0 (s a 38).toNat) ∧ (x1 < 20 → x1 < 1 ∨ 10 < x1 → 1 ≤ x2)))) (fun G s _ => pV (fun G2 s2 => G2 = G ∧ zSK G s2 ∧ zFr [13, 88, 89, 90] G s s2 ∧ ((s2 a 5 = -1 → s2 a 38 = s a 38 + 1) ∧ (s a 38 ≤ s2 a 38)) ∧ zNv (s2 a 5) (s2 (gP G a 31)) (s2 (gP G a 32)) (s2 a 38) ∧ (s2 a 5 = -1 → ((x1 = 20 → zRp (s2 (gP G a 31)) 0 (s2 a 38).toNat = zRp (s (gP G a 31)) 0 (s a 38).toNat) ∧ (20 < x1 → zRp (s2 (gP G a 31)) 0 (s2 a 38).toNat = zRp (s (gP G a 31)) 0 (s a 38).toNat - 1) ∧ (x1 < 20 → zRp (s2 (gP G a 31)) 0 (s2 a 38).toNat = zRp (s (gP G a 31)) 0 (s a 38).toNat + 1))) ∧ s2 a 0 = s a 0 ∧ s2 a 3 = s a 3 ∧ s2 a 4 = s a 4 ∧ s2 a 5 = s a 5 ∧ s2 a 7 = s a 7 ∧ s2 a 21 = s a 21 ∧ s2 a 22 = s a 22 ∧ s2 a 23 = s a 23 ∧ s2 a 24 = s a 24 ∧ s2 a 51 = s a 51 ∧ s2 a 52 = s a 52)) := by
  refine Con.mk hst (by decide) (fun G s vs h => by rw [h.1]; exact Nat.le_of_ble_eq_true rfl) ?_
  rintro X G s0 vs ⟨rfl, hG, hS0, ha, hx1, hx2, hx3, e0, e1, e2⟩ rfl hx hq
  show JJ X E 4 G s0 0 0 [(0, .ref a), (1, .int (zI x1)), (2, .int (zI x2)), (3, .int (zI x3))] 0 []
  refine j_aload_n hx 0 dX12_emit_0 rfl ?_
  refine j_callV hx hG (c_X12_fine hst a) lk_RX12_166 ha (by decide) rfl rfl rfl rfl [] ⟨rfl, hG, hS0, ha⟩ rfl rfl ⟨by decide, by decide⟩ ⟨by decide, by decide⟩ (k2 := 0) (n2 := 0) rfl rfl (Nat.le_of_ble_eq_true rfl) dX12_emit_1 (kIP (fun v1 q2 => ?_))
  refine j_if_ne hx 8 dX12_emit_4 rfl (by omega) (fun h3 => ?_) (fun h3 => ?_)
  · skip
    refine j_aload_n hx 0 dX12_emit_8 rfl ?_
    refine g13_31 hx hG ha kf_RX12_68 dX12_emit_9 ?_
    refine j_aload_n hx 0 dX12_emit_12 rfl ?_
    have f4 := zf hS0 ha (k := 38) rfl
    refine g13_38 hx hG ha kf_RX12_269 rfl dX12_emit_13 ?_
    refine j_iload_n hx 1 dX12_emit_16 rfl ?_
    refine j_iast hx hG (zr (k := 31) (t2 := 88) hG ha rfl) (by decide) rfl (zlen hG (zr (k := 31) (t2 := 88) hG ha rfl) (n := 150) rfl rfl) (by omega) (by omega) (j := ((s0 a 38)).toNat) rfl dX12_emit_17 ?_
    obtain ⟨s1, e_s1⟩ : ∃ z, z = zU s0 (gP G a 31) ((s0 a 38)).toNat x1 := ⟨_, rfl⟩
    rw [← e_s1]
    have hS_s1 : zSK G s1 := by rw [e_s1]; exact zSK_A hS0 (zr (k := 31) (t2 := 88) hG ha rfl) rfl rfl rfl (by omega)
    refine j_aload_n hx 0 dX12_emit_18 rfl ?_
    refine g13_32 hx hG ha kf_RX12_71 dX12_emit_19 ?_
    refine j_aload_n hx 0 dX12_emit_22 rfl ?_
    refine g13_38 hx hG ha kf_RX12_269 (v := (s0 a 38)) (by rw [e_s1, zU_at (Or.inl (zne (zr (k := 31) (t2 := 88) hG ha rfl) ha (by decide)))]) dX12_emit_23 ?_
    refine j_iload_n hx 2 dX12_emit_26 rfl ?_
    refine j_iast hx hG (zr (k := 32) (t2 := 89) hG ha rfl) (by decide) rfl (zlen hG (zr (k := 32) (t2 := 89) hG ha rfl) (n := 150) rfl rfl) (by omega) (by omega) (j := ((s0 a 38)).toNat) rfl dX12_emit_27 ?_
    obtain ⟨s2, e_s2⟩ : ∃ z, z = zU s1 (gP G a 32) ((s0 a 38)).toNat x2 := ⟨_, rfl⟩
    rw [← e_s2]
    have hS_s2 : zSK G s2 := by rw [e_s2]; exact zSK_A hS_s1 (zr (k := 32) (t2 := 89) hG ha rfl) rfl rfl rfl (by omega)
    have hEm := zNv_e (e1 (by omega)) e_s1 e_s2 (zne (zr (k := 31) (t2 := 88) hG ha rfl) (zr (k := 32) (t2 := 89) hG ha rfl) (by decide)) (by omega) (fun h => by omega) (fun h => by omega) (fun h h2 => by omega)
    have hP6 : zNv (s0 a 5) (s2 (gP G a 31)) (s2 (gP G a 32)) (s0 a 38 + 1) := (fun _ => hEm.1)
    refine j_aload_n hx 0 dX12_emit_28 rfl ?_
    refine g13_33 hx hG ha kf_RX12_74 dX12_emit_29 ?_
    refine j_aload_n hx 0 dX12_emit_32 rfl ?_
    refine g13_38 hx hG ha kf_RX12_269 (v := (s0 a 38)) (by rw [e_s2, zU_at (Or.inl (zne (zr (k := 32) (t2 := 89) hG ha rfl) ha (by decide))), e_s1, zU_at (Or.inl (zne (zr (k := 31) (t2 := 88) hG ha rfl) ha (by decide)))]) dX12_emit_33 ?_
    refine j_iload_n hx 3 dX12_emit_36 rfl ?_
    refine j_iast hx hG (zr (k := 33) (t2 := 90) hG ha rfl) (by decide) rfl (zlen hG (zr (k := 33) (t2 := 90) hG ha rfl) (n := 150) rfl rfl) (by omega) (by omega) (j := ((s0 a 38)).toNat) rfl dX12_emit_37 ?_
    obtain ⟨s3, e_s3⟩ : ∃ z, z = zU s2 (gP G a 33) ((s0 a 38)).toNat x3 := ⟨_, rfl⟩
    rw [← e_s3]
    have hS_s3 : zSK G s3 := by rw [e_s3]; exact zSK_A hS_s2 (zr (k := 33) (t2 := 90) hG ha rfl) rfl rfl rfl (by omega)
    refine j_aload_n hx 0 dX12_emit_38 rfl ?_
    refine j_dup hx dX12_emit_39 rfl ?_
    refine g13_38 hx hG ha kf_RX12_269 (v := (s0 a 38)) (by rw [e_s3, zU_at (Or.inl (zne (zr (k := 33) (t2 := 90) hG ha rfl) ha (by decide))), e_s2, zU_at (Or.inl (zne (zr (k := 32) (t2 := 89) hG ha rfl) ha (by decide))), e_s1, zU_at (Or.inl (zne (zr (k := 31) (t2 := 88) hG ha rfl) ha (by decide)))]) dX12_emit_40 ?_
    refine j_iconst hx dX12_emit_43 ?_
    refine j_iadd hx (r := (s0 a 38) + 1) dX12_emit_44 (by omega) ?_
    refine p13_38 hx hG ha kf_RX12_269 dX12_emit_45 ?_
    obtain ⟨s4, e_s4⟩ : ∃ z, z = zU s3 a 38 ((s0 a 38) + 1) := ⟨_, rfl⟩
    rw [← e_s4]
    have hS_s4 : zSK G s4 := by rw [e_s4]; exact zSK_F hS_s3 ha rfl rfl rfl (by omega)
    have g7 : s4 a 5 = s0 a 5 := (by rw [e_s4, zU_at (Or.inr (by decide)), e_s3, zU_at (Or.inl (zne (zr (k := 33) (t2 := 90) hG ha rfl) ha (by decide))), e_s2, zU_at (Or.inl (zne (zr (k := 32) (t2 := 89) hG ha rfl) ha (by decide))), e_s1, zU_at (Or.inl (zne (zr (k := 31) (t2 := 88) hG ha rfl) ha (by decide)))])
    have f8 := zf hS0 ha (k := 5) rfl
    have g9 : s4 a 38 = (s0 a 38) + 1 := (by rw [e_s4, zU_eq])
    have g10 : (s4 (gP G a 31)) = (s1 (gP G a 31)) := by rw [e_s4, zU_ne (zne (zr (k := 31) (t2 := 88) hG ha rfl) ha (by decide)), e_s3, zU_ne (zne (zr (k := 31) (t2 := 88) hG ha rfl) (zr (k := 33) (t2 := 90) hG ha rfl) (by decide)), e_s2, zU_ne (zne (zr (k := 31) (t2 := 88) hG ha rfl) (zr (k := 32) (t2 := 89) hG ha rfl) (by decide))]
    have g11 : zRp (s4 (gP G a 31)) 0 (s4 a 38).toNat = zRp (s1 (gP G a 31)) 0 ((s0 a 38) + 1).toNat := by rw [g10, show s4 a 38 = (s0 a 38) + 1 by omega]
    have g12 : s4 a 0 = s0 a 0 := (by rw [e_s4, zU_at (Or.inr (by decide)), e_s3, zU_at (Or.inl (zne (zr (k := 33) (t2 := 90) hG ha rfl) ha (by decide))), e_s2, zU_at (Or.inl (zne (zr (k := 32) (t2 := 89) hG ha rfl) ha (by decide))), e_s1, zU_at (Or.inl (zne (zr (k := 31) (t2 := 88) hG ha rfl) ha (by decide)))])
    have f13 := zf hS0 ha (k := 0) rfl
    have g14 : s4 a 3 = s0 a 3 := (by rw [e_s4, zU_at (Or.inr (by decide)), e_s3, zU_at (Or.inl (zne (zr (k := 33) (t2 := 90) hG ha rfl) ha (by decide))), e_s2, zU_at (Or.inl (zne (zr (k := 32) (t2 := 89) hG ha rfl) ha (by decide))), e_s1, zU_at (Or.inl (zne (zr (k := 31) (t2 := 88) hG ha rfl) ha (by decide)))])
    have f15 := zf hS0 ha (k := 3) rfl
    have g16 : s4 a 4 = s0 a 4 := (by rw [e_s4, zU_at (Or.inr (by decide)), e_s3, zU_at (Or.inl (zne (zr (k := 33) (t2 := 90) hG ha rfl) ha (by decide))), e_s2, zU_at (Or.inl (zne (zr (k := 32) (t2 := 89) hG ha rfl) ha (by decide))), e_s1, zU_at (Or.inl (zne (zr (k := 31) (t2 := 88) hG ha rfl) ha (by decide)))])
    have f17 := zf hS0 ha (k := 4) rfl
    have g18 : s4 a 7 = s0 a 7 := (by rw [e_s4, zU_at (Or.inr (by decide)), e_s3, zU_at (Or.inl (zne (zr (k := 33) (t2 := 90) hG ha rfl) ha (by decide))), e_s2, zU_at (Or.inl (zne (zr (k := 32) (t2 := 89) hG ha rfl) ha (by decide))), e_s1, zU_at (Or.inl (zne (zr (k := 31) (t2 := 88) hG ha rfl) ha (by decide)))])
    have f19 := zf hS0 ha (k := 7) rfl
    have g20 : s4 a 21 = s0 a 21 := (by rw [e_s4, zU_at (Or.inr (by decide)), e_s3, zU_at (Or.inl (zne (zr (k := 33) (t2 := 90) hG ha rfl) ha (by decide))), e_s2, zU_at (Or.inl (zne (zr (k := 32) (t2 := 89) hG ha rfl) ha (by decide))), e_s1, zU_at (Or.inl (zne (zr (k := 31) (t2 := 88) hG ha rfl) ha (by decide)))])
    have f21 := zf hS0 ha (k := 21) rfl
    have g22 : s4 a 22 = s0 a 22 := (by rw [e_s4, zU_at (Or.inr (by decide)), e_s3, zU_at (Or.inl (zne (zr (k := 33) (t2 := 90) hG ha rfl) ha (by decide))), e_s2, zU_at (Or.inl (zne (zr (k := 32) (t2 := 89) hG ha rfl) ha (by decide))), e_s1, zU_at (Or.inl (zne (zr (k := 31) (t2 := 88) hG ha rfl) ha (by decide)))])
    have f23 := zf hS0 ha (k := 22) rfl
    have g24 : s4 a 23 = s0 a 23 := (by rw [e_s4, zU_at (Or.inr (by decide)), e_s3, zU_at (Or.inl (zne (zr (k := 33) (t2 := 90) hG ha rfl) ha (by decide))), e_s2, zU_at (Or.inl (zne (zr (k := 32) (t2 := 89) hG ha rfl) ha (by decide))), e_s1, zU_at (Or.inl (zne (zr (k := 31) (t2 := 88) hG ha rfl) ha (by decide)))])
    have f25 := zf hS0 ha (k := 23) rfl
    have g26 : s4 a 24 = s0 a 24 := (by rw [e_s4, zU_at (Or.inr (by decide)), e_s3, zU_at (Or.inl (zne (zr (k := 33) (t2 := 90) hG ha rfl) ha (by decide))), e_s2, zU_at (Or.inl (zne (zr (k := 32) (t2 := 89) hG ha rfl) ha (by decide))), e_s1, zU_at (Or.inl (zne (zr (k := 31) (t2 := 88) hG ha rfl) ha (by decide)))])
    have f27 := zf hS0 ha (k := 24) rfl
    have g28 : s4 a 51 = s0 a 51 := (by rw [e_s4, zU_at (Or.inr (by decide)), e_s3, zU_at (Or.inl (zne (zr (k := 33) (t2 := 90) hG ha rfl) ha (by decide))), e_s2, zU_at (Or.inl (zne (zr (k := 32) (t2 := 89) hG ha rfl) ha (by decide))), e_s1, zU_at (Or.inl (zne (zr (k := 31) (t2 := 88) hG ha rfl) ha (by decide)))])
    have f29 := zf hS0 ha (k := 51) rfl
    have g30 : s4 a 52 = s0 a 52 := (by rw [e_s4, zU_at (Or.inr (by decide)), e_s3, zU_at (Or.inl (zne (zr (k := 33) (t2 := 90) hG ha rfl) ha (by decide))), e_s2, zU_at (Or.inl (zne (zr (k := 32) (t2 := 89) hG ha rfl) ha (by decide))), e_s1, zU_at (Or.inl (zne (zr (k := 31) (t2 := 88) hG ha rfl) ha (by decide)))])
    have f31 := zf hS0 ha (k := 52) rfl
    exact j_vret hx hq rfl (by decide) (by decide) dX12_emit_48 ⟨rfl, rfl, hS_s4, (zFr_u (zFr_u (zFr_u (zFr_u zFr_rf e_s1 (zr (k := 31) (t2 := 88) hG ha rfl) (by decide)) e_s2 (zr (k := 32) (t2 := 89) hG ha rfl) (by decide)) e_s3 (zr (k := 33) (t2 := 90) hG ha rfl) (by decide)) e_s4 ha (by decide)), ⟨by omega, (by rw [e_s4, zU_ne (zne (zr (k := 31) (t2 := 88) hG ha rfl) ha (by decide)), e_s3, zU_ne (zne (zr (k := 31) (t2 := 88) hG ha rfl) (zr (k := 33) (t2 := 90) hG ha rfl) (by decide)), e_s4, zU_ne (zne (zr (k := 32) (t2 := 89) hG ha rfl) ha (by decide)), e_s3, zU_ne (zne (zr (k := 32) (t2 := 89) hG ha rfl) (zr (k := 33) (t2 := 90) hG ha rfl) (by decide))]; exact (zNv_k hP6 (by omega) (by omega))), by omega, by omega, by omega, by omega, by omega, by omega, by omega, by omega, by omega, by omega, by omega, by omega⟩⟩
  · skip
    have f32 := zf hS0 ha (k := 5) rfl
    have f33 := zf hS0 ha (k := 38) rfl
    have f34 := zf hS0 ha (k := 0) rfl
    have f35 := zf hS0 ha (k := 3) rfl
    have f36 := zf hS0 ha (k := 4) rfl
    have f37 := zf hS0 ha (k := 7) rfl
    have f38 := zf hS0 ha (k := 21) rfl
    have f39 := zf hS0 ha (k := 22) rfl
    have f40 := zf hS0 ha (k := 23) rfl
    have f41 := zf hS0 ha (k := 24) rfl
    have f42 := zf hS0 ha (k := 51) rfl
    have f43 := zf hS0 ha (k := 52) rfl
    exact j_vret hx hq rfl (by decide) (by decide) dX12_emit_7 ⟨rfl, rfl, hS0, zFr_rf, ⟨by omega, (zNv_k e1 (by omega) (by omega)), by omega, by omega, by omega, by omega, by omega, by omega, by omega, by omega, by omega, by omega, by omega, by omega⟩⟩

theorem lk_RX12_277 : LkV RX12 277 RX12 yX12_emit cX12_emit 4 none 3 := ⟨km_RX12_277, ki_yX12_emit, ks_RX12_yX12_emit, kn_RX12, kc_yX12_emit, rfl, by decide +kernel, by decide +kernel, by decide +kernel⟩
set_option maxHeartbeats 4000000 in
set_option maxRecDepth 20000 in
theorem c_X12_readHeld {E : zE} {l : Launch} (hst : l.stackTraces = false) (a : Nat) (x1 : Int) (x2 : Int) : Con E l yX12_readHeld cX12_readHeld 5 none { frames := 2, cells := 0, slots := 0, locals := 47 } (fun G s vs => vs = [.ref a, .int (zI x1), .int (zI x2)] ∧ zGK G ∧ zSK G s ∧ (gT G a = 13) ∧ ((-1) ≤ x1 ∧ x1 ≤ 9) ∧ (6 ≤ x2 ∧ x2 ≤ 10) ∧ (s a 3 ≤ 150) ∧ (s a 4 ≤ s a 3 + 2) ∧ (s a 5 = -1 → s a 38 + 1 ≤ s a 4) ∧ (zNv (s a 5) (s (gP G a 31)) (s (gP G a 32)) (s a 38))) (fun G s _ => pV (fun G2 s2 => G2 = G ∧ zSK G s2 ∧ zFr [13, 88, 89, 90] G s s2 ∧ s a 4 ≤ s2 a 4 ∧ 0 ≤ s a 5 → 0 ≤ s2 a 5 ∧ s2 a 4 ≤ s a 3 + 2 ∧ (s2 a 5 = -1 → (zRp (s2 (gP G a 31)) 0 (s2 a 38).toNat = zRp (s (gP G a 31)) 0 (s a 38).toNat + 1 ∧ s a 38 + 1 ≤ s2 a 38 ∧ s2 a 38 - s a 38 ≤ s2 a 4 - s a 4 ∧ s2 a 4 ≤ s a 3)) ∧ zNv (s2 a 5) (s2 (gP G a 31)) (s2 (gP G a 32)) (s2 a 38) ∧ s2 a 0 = s a 0 ∧ s2 a 3 = s a 3 ∧ s2 a 7 = s a 7 ∧ s2 a 21 = s a 21 ∧ s2 a 22 = s a 22 ∧ s2 a 23 = s a 23 ∧ s2 a 24 = s a 24 ∧ s2 a 51 = s a 51 ∧ s2 a 52 = s a 52)) := by
  refine Con.mk hst (by decide) (fun G s vs h => by rw [h.1]; exact Nat.le_of_ble_eq_true rfl) ?_
  rintro X G s0 vs ⟨rfl, hG, hS0, ha, hx1, hx2, e0, e1, e2, e3⟩ rfl hx hq
  show JJ X E 5 G s0 0 0 [(0, .ref a), (1, .int (zI x1)), (2, .int (zI x2))] 0 []
  refine j_aload_n hx 0 dX12_readHeld_0 rfl ?_
  have f1 := zf hS0 ha (k := 4) rfl
  have f2 := zf hS0 ha (k := 3) rfl
  have f3 := zf hS0 ha (k := 0) rfl
  have f4 := zf hS0 ha (k := 5) rfl
  have f5 := zf hS0 ha (k := 7) rfl
  have f6 := zf hS0 ha (k := 21) rfl
  have f7 := zf hS0 ha (k := 22) rfl
  have f8 := zf hS0 ha (k := 23) rfl
  have f9 := zf hS0 ha (k := 24) rfl
  have f10 := zf hS0 ha (k := 38) rfl
  have f11 := zf hS0 ha (k := 51) rfl
  have f12 := zf hS0 ha (k := 52) rfl
  refine j_callV hx hG (c_X12_here hst a) lk_RX12_149 ha (by decide) rfl rfl rfl rfl [] ⟨rfl, hG, hS0, ha⟩ rfl rfl ⟨by decide, by decide⟩ ⟨by decide, by decide⟩ (k2 := 0) (n2 := 0) rfl rfl (Nat.le_of_ble_eq_true rfl) dX12_readHeld_1 (kIM (fun v13 s1 hS_s1 hF_s1 q14 => ?_))
  refine j_istore_n hx [(3, .int (zI v13)), (0, .ref a), (1, .int (zI x1)), (2, .int (zI x2))] dX12_readHeld_4 (by decide) rfl ?_
  refine j_iload_n hx 0 dX12_readHeld_5 rfl ?_
  refine j_bipush hx dX12_readHeld_6 rfl ?_
  refine j_icmp_eq hx 22 dX12_readHeld_8 rfl (by omega) ⟨by decide, by decide⟩ (fun h15 => ?_) (fun h15 => ?_)
  · skip
    refine j_iconst hx dX12_readHeld_22 ?_
    refine j_goto hx 27 dX12_readHeld_23 rfl ?_
    refine j_istore hx [(4, .int (zI 1)), (3, .int (zI v13)), (0, .ref a), (1, .int (zI x1)), (2, .int (zI x2))] dX12_readHeld_27 (by decide) rfl ?_
    refine j_iload hx 0 dX12_readHeld_29 rfl ?_
    refine j_if_ne hx 43 dX12_readHeld_31 rfl ⟨by decide, by decide⟩ (fun h16 => ?_) (fun h16 => absurd h16 (by omega))
    refine j_aload_n hx 2 dX12_readHeld_43 rfl ?_
    refine j_callV hx hG (c_X12_fine hst a) lk_RX12_166 ha (by decide) rfl rfl rfl rfl [] ⟨rfl, hG, hS_s1, ha⟩ rfl rfl ⟨by decide, by decide⟩ ⟨by decide, by decide⟩ (k2 := 0) (n2 := 0) rfl rfl (Nat.le_of_ble_eq_true rfl) dX12_readHeld_44 (kIP (fun v17 q18 => ?_))
    refine j_if_ne hx 51 dX12_readHeld_47 rfl (by omega) (fun h19 => ?_) (fun h19 => ?_)
    · skip
      refine j_aload_n hx 2 dX12_readHeld_51 rfl ?_
      refine j_dup hx dX12_readHeld_52 rfl ?_
      have f20 := zf hS_s1 ha (k := 4) rfl
      refine g13_4 hx hG ha kf_RX12_143 rfl dX12_readHeld_53 ?_
      refine j_iconst hx dX12_readHeld_56 ?_
      refine j_iadd hx (r := (s1 a 4) + 1) dX12_readHeld_57 (by omega) ?_
      refine p13_4 hx hG ha kf_RX12_143 dX12_readHeld_58 ?_
      obtain ⟨s2, e_s2⟩ : ∃ z, z = zU s1 a 4 ((s1 a 4) + 1) := ⟨_, rfl⟩
      rw [← e_s2]
      have hS_s2 : zSK G s2 := by rw [e_s2]; exact zSK_F hS_s1 ha rfl rfl rfl (by omega)
      refine j_aload_n hx 2 dX12_readHeld_61 rfl ?_
      refine j_iload_n hx 1 dX12_readHeld_62 rfl ?_
      refine j_bipush hx dX12_readHeld_63 rfl ?_
      refine j_icmp_ne hx 72 dX12_readHeld_65 rfl (by omega) ⟨by decide, by decide⟩ (fun h21 => ?_) (fun h21 => absurd h21 (by omega))
      refine j_iload_n hx 4 dX12_readHeld_72 rfl ?_
      refine j_aload_n hx 2 dX12_readHeld_73 rfl ?_
      refine j_iconst hx dX12_readHeld_74 ?_
      refine j_bipush hx dX12_readHeld_75 rfl ?_
      have g22 : s2 a 4 = (s1 a 4) + 1 := (by rw [e_s2, zU_eq])
      have g23 : s2 a 5 = s1 a 5 := (by rw [e_s2, zU_at (Or.inr (by decide))])
      have f24 := zf hS_s1 ha (k := 5) rfl
      have g25 : s2 a 3 = s1 a 3 := (by rw [e_s2, zU_at (Or.inr (by decide))])
      have f26 := zf hS_s1 ha (k := 3) rfl
      have g27 : s2 a 0 = s1 a 0 := (by rw [e_s2, zU_at (Or.inr (by decide))])
      have f28 := zf hS_s1 ha (k := 0) rfl
      have g29 : s2 a 7 = s1 a 7 := (by rw [e_s2, zU_at (Or.inr (by decide))])
      have f30 := zf hS_s1 ha (k := 7) rfl
      have g31 : s2 a 21 = s1 a 21 := (by rw [e_s2, zU_at (Or.inr (by decide))])
      have f32 := zf hS_s1 ha (k := 21) rfl
      have g33 : s2 a 22 = s1 a 22 := (by rw [e_s2, zU_at (Or.inr (by decide))])
      have f34 := zf hS_s1 ha (k := 22) rfl
      have g35 : s2 a 23 = s1 a 23 := (by rw [e_s2, zU_at (Or.inr (by decide))])
      have f36 := zf hS_s1 ha (k := 23) rfl
      have g37 : s2 a 24 = s1 a 24 := (by rw [e_s2, zU_at (Or.inr (by decide))])
      have f38 := zf hS_s1 ha (k := 24) rfl
      have g39 : s2 a 38 = s1 a 38 := (by rw [e_s2, zU_at (Or.inr (by decide))])
      have f40 := zf hS_s1 ha (k := 38) rfl
      have g41 : s2 a 51 = s1 a 51 := (by rw [e_s2, zU_at (Or.inr (by decide))])
      have f42 := zf hS_s1 ha (k := 51) rfl
      have g43 : s2 a 52 = s1 a 52 := (by rw [e_s2, zU_at (Or.inr (by decide))])
      have f44 := zf hS_s1 ha (k := 52) rfl
      refine j_callV hx hG (c_X12_readNumber hst a 0 60) lk_RX12_219 ha (by decide) rfl rfl rfl rfl [.int (zI 0), .int (zI 60)] ⟨rfl, hG, hS_s2, ha, (by omega), (by omega)⟩ rfl rfl ⟨by decide, by decide⟩ ⟨by decide, by decide⟩ (k2 := 0) (n2 := 0) rfl rfl (Nat.le_of_ble_eq_true rfl) dX12_readHeld_77 (kIM (fun v45 s3 hS_s3 hF_s3 q46 => ?_))
      refine j_iconst hx dX12_readHeld_80 ?_
      have f47 := zf hS_s3 ha (k := 5) rfl
      have f48 := zf hS_s3 ha (k := 38) rfl
      have g49 : (s3 (gP G a 31)) = (s0 (gP G a 31)) := by rw [(zFr_g hF_s3 (zr (k := 31) (t2 := 88) hG ha rfl) (by decide)), e_s2, zU_ne (zne (zr (k := 31) (t2 := 88) hG ha rfl) ha (by decide)), (zFr_g hF_s1 (zr (k := 31) (t2 := 88) hG ha rfl) (by decide))]
      have g50 : zRp (s3 (gP G a 31)) 0 (s3 a 38).toNat = zRp (s0 (gP G a 31)) 0 (s0 a 38).toNat := by rw [g49, show s3 a 38 = s0 a 38 by omega]
      have f51 := zf hS_s3 ha (k := 0) rfl
      have f52 := zf hS_s3 ha (k := 3) rfl
      have f53 := zf hS_s3 ha (k := 4) rfl
      have f54 := zf hS_s3 ha (k := 7) rfl
      have f55 := zf hS_s3 ha (k := 21) rfl
      have f56 := zf hS_s3 ha (k := 22) rfl
      have f57 := zf hS_s3 ha (k := 23) rfl
      have f58 := zf hS_s3 ha (k := 24) rfl
      have f59 := zf hS_s3 ha (k := 51) rfl
      have f60 := zf hS_s3 ha (k := 52) rfl
      refine j_callV hx hG (c_X12_emit hst a x2 v45 0) lk_RX12_277 ha (by decide) rfl rfl rfl rfl [.int (zI x2), .int (zI v45), .int (zI 0)] ⟨rfl, hG, hS_s3, ha, (by omega), (by omega), (by omega), (by omega), ((by rw [(zFr_g hF_s3 (zr (k := 31) (t2 := 88) hG ha rfl) (by decide)), e_s2, zU_ne (zne (zr (k := 31) (t2 := 88) hG ha rfl) ha (by decide)), (zFr_g hF_s1 (zr (k := 31) (t2 := 88) hG ha rfl) (by decide)), (zFr_g hF_s3 (zr (k := 32) (t2 := 89) hG ha rfl) (by decide)), e_s2, zU_ne (zne (zr (k := 32) (t2 := 89) hG ha rfl) ha (by decide)), (zFr_g hF_s1 (zr (k := 32) (t2 := 89) hG ha rfl) (by decide))]; exact (zNv_k e3 (by omega) (by omega)))), (by omega)⟩ rfl rfl ⟨by decide, by decide⟩ ⟨by decide, by decide⟩ (k2 := 0) (n2 := 0) rfl rfl (Nat.le_of_ble_eq_true rfl) dX12_readHeld_81 (kVM (fun s4 hS_s4 hF_s4 q62 => ?_))
      have f63 := zf hS_s4 ha (k := 4) rfl
      have f64 := zf hS_s4 ha (k := 5) rfl
      have f65 := zf hS_s4 ha (k := 38) rfl
      have f66 := zf hS_s4 ha (k := 0) rfl
      have f67 := zf hS_s4 ha (k := 3) rfl
      have f68 := zf hS_s4 ha (k := 7) rfl
      have f69 := zf hS_s4 ha (k := 21) rfl
      have f70 := zf hS_s4 ha (k := 22) rfl
      have f71 := zf hS_s4 ha (k := 23) rfl
      have f72 := zf hS_s4 ha (k := 24) rfl
      have f73 := zf hS_s4 ha (k := 51) rfl
      have f74 := zf hS_s4 ha (k := 52) rfl
      exact j_vret hx hq rfl (by decide) (by decide) dX12_readHeld_84 ⟨rfl, rfl, hS_s4, (zFr_t (zFr_t (zFr_u (zFr_t zFr_rf hF_s1 (by decide)) e_s2 ha (by decide)) hF_s3 (by decide)) hF_s4 (by decide)), ⟨by omega, by omega, by omega, by omega, (zNv_k q62.2.1 (by omega) (by omega)), by omega, by omega, by omega, by omega, by omega, by omega, by omega, by omega, by omega⟩⟩
    · skip
      have f75 := zf hS_s1 ha (k := 4) rfl
      have f76 := zf hS_s1 ha (k := 5) rfl
      have f77 := zf hS_s1 ha (k := 38) rfl
      have g78 : (s1 (gP G a 31)) = (s0 (gP G a 31)) := by rw [(zFr_g hF_s1 (zr (k := 31) (t2 := 88) hG ha rfl) (by decide))]
      have g79 : zRp (s1 (gP G a 31)) 0 (s1 a 38).toNat = zRp (s0 (gP G a 31)) 0 (s0 a 38).toNat := by rw [g78, show s1 a 38 = s0 a 38 by omega]
      have f80 := zf hS_s1 ha (k := 0) rfl
      have f81 := zf hS_s1 ha (k := 3) rfl
      have f82 := zf hS_s1 ha (k := 7) rfl
      have f83 := zf hS_s1 ha (k := 21) rfl
      have f84 := zf hS_s1 ha (k := 22) rfl
      have f85 := zf hS_s1 ha (k := 23) rfl
      have f86 := zf hS_s1 ha (k := 24) rfl
      have f87 := zf hS_s1 ha (k := 51) rfl
      have f88 := zf hS_s1 ha (k := 52) rfl
      exact j_vret hx hq rfl (by decide) (by decide) dX12_readHeld_50 ⟨rfl, rfl, hS_s1, (zFr_t zFr_rf hF_s1 (by decide)), ⟨by omega, by omega, by omega, by omega, (by rw [(zFr_g hF_s1 (zr (k := 31) (t2 := 88) hG ha rfl) (by decide)), (zFr_g hF_s1 (zr (k := 32) (t2 := 89) hG ha rfl) (by decide))]; exact (zNv_k e3 (by omega) (by omega))), by omega, by omega, by omega, by omega, by omega, by omega, by omega, by omega, by omega⟩⟩
  · skip
    refine j_iload_n hx 0 dX12_readHeld_11 rfl ?_
    refine j_bipush hx dX12_readHeld_12 rfl ?_
    refine j_icmp_ne hx 26 dX12_readHeld_14 rfl (by omega) ⟨by decide, by decide⟩ (fun h89 => ?_) (fun h89 => ?_)
    · skip
      refine j_iconst hx dX12_readHeld_26 ?_
      refine j_istore hx [(4, .int (zI 0)), (3, .int (zI v13)), (0, .ref a), (1, .int (zI x1)), (2, .int (zI x2))] dX12_readHeld_27 (by decide) rfl ?_
      refine j_iload hx 0 dX12_readHeld_29 rfl ?_
      refine j_if_ne hx 43 dX12_readHeld_31 rfl ⟨by decide, by decide⟩ (fun h90 => absurd h90 (by omega)) (fun h90 => ?_)
      refine j_aload_n hx 2 dX12_readHeld_34 rfl ?_
      refine j_iconst hx dX12_readHeld_35 ?_
      refine j_aload_n hx 2 dX12_readHeld_36 rfl ?_
      have f91 := zf hS_s1 ha (k := 4) rfl
      refine g13_4 hx hG ha kf_RX12_143 rfl dX12_readHeld_37 ?_
      have f92 := zf hS_s1 ha (k := 0) rfl
      have f93 := zf hS_s1 ha (k := 3) rfl
      have f94 := zf hS_s1 ha (k := 7) rfl
      have f95 := zf hS_s1 ha (k := 21) rfl
      have f96 := zf hS_s1 ha (k := 22) rfl
      have f97 := zf hS_s1 ha (k := 23) rfl
      have f98 := zf hS_s1 ha (k := 24) rfl
      have f99 := zf hS_s1 ha (k := 38) rfl
      have f100 := zf hS_s1 ha (k := 51) rfl
      have f101 := zf hS_s1 ha (k := 52) rfl
      refine j_callV hx hG (c_X12_wrong hst a 1 ((s1 a 4))) lk_RX12_173 ha (by decide) rfl rfl rfl rfl [.int (zI 1), .int (zI ((s1 a 4)))] ⟨rfl, hG, hS_s1, ha, (by omega), (by omega)⟩ rfl rfl ⟨by decide, by decide⟩ ⟨by decide, by decide⟩ (k2 := 0) (n2 := 0) rfl rfl (Nat.le_of_ble_eq_true rfl) dX12_readHeld_40 (kVM (fun s5 hS_s5 hF_s5 q103 => ?_))
      refine j_aload_n hx 2 dX12_readHeld_43 rfl ?_
      refine j_callV hx hG (c_X12_fine hst a) lk_RX12_166 ha (by decide) rfl rfl rfl rfl [] ⟨rfl, hG, hS_s5, ha⟩ rfl rfl ⟨by decide, by decide⟩ ⟨by decide, by decide⟩ (k2 := 0) (n2 := 0) rfl rfl (Nat.le_of_ble_eq_true rfl) dX12_readHeld_44 (kIP (fun v104 q105 => ?_))
      refine j_if_ne hx 51 dX12_readHeld_47 rfl (by omega) (fun h106 => ?_) (fun h106 => ?_)
      · skip
        refine j_aload_n hx 2 dX12_readHeld_51 rfl ?_
        refine j_dup hx dX12_readHeld_52 rfl ?_
        have f107 := zf hS_s5 ha (k := 4) rfl
        refine g13_4 hx hG ha kf_RX12_143 rfl dX12_readHeld_53 ?_
        refine j_iconst hx dX12_readHeld_56 ?_
        refine j_iadd hx (r := (s5 a 4) + 1) dX12_readHeld_57 (by omega) ?_
        refine p13_4 hx hG ha kf_RX12_143 dX12_readHeld_58 ?_
        obtain ⟨s6, e_s6⟩ : ∃ z, z = zU s5 a 4 ((s5 a 4) + 1) := ⟨_, rfl⟩
        rw [← e_s6]
        have hS_s6 : zSK G s6 := by rw [e_s6]; exact zSK_F hS_s5 ha rfl rfl rfl (by omega)
        refine j_aload_n hx 2 dX12_readHeld_61 rfl ?_
        refine j_iload_n hx 1 dX12_readHeld_62 rfl ?_
        refine j_bipush hx dX12_readHeld_63 rfl ?_
        refine j_icmp_ne hx 72 dX12_readHeld_65 rfl (by omega) ⟨by decide, by decide⟩ (fun h108 => ?_) (fun h108 => ?_)
        · skip
          refine j_iload_n hx 4 dX12_readHeld_72 rfl ?_
          refine j_aload_n hx 2 dX12_readHeld_73 rfl ?_
          refine j_iconst hx dX12_readHeld_74 ?_
          refine j_bipush hx dX12_readHeld_75 rfl ?_
          have g109 : s6 a 4 = (s5 a 4) + 1 := (by rw [e_s6, zU_eq])
          have g110 : s6 a 5 = s5 a 5 := (by rw [e_s6, zU_at (Or.inr (by decide))])
          have f111 := zf hS_s5 ha (k := 5) rfl
          have g112 : s6 a 3 = s5 a 3 := (by rw [e_s6, zU_at (Or.inr (by decide))])
          have f113 := zf hS_s5 ha (k := 3) rfl
          have g114 : s6 a 0 = s5 a 0 := (by rw [e_s6, zU_at (Or.inr (by decide))])
          have f115 := zf hS_s5 ha (k := 0) rfl
          have g116 : s6 a 7 = s5 a 7 := (by rw [e_s6, zU_at (Or.inr (by decide))])
          have f117 := zf hS_s5 ha (k := 7) rfl
          have g118 : s6 a 21 = s5 a 21 := (by rw [e_s6, zU_at (Or.inr (by decide))])
          have f119 := zf hS_s5 ha (k := 21) rfl
          have g120 : s6 a 22 = s5 a 22 := (by rw [e_s6, zU_at (Or.inr (by decide))])
          have f121 := zf hS_s5 ha (k := 22) rfl
          have g122 : s6 a 23 = s5 a 23 := (by rw [e_s6, zU_at (Or.inr (by decide))])
          have f123 := zf hS_s5 ha (k := 23) rfl
          have g124 : s6 a 24 = s5 a 24 := (by rw [e_s6, zU_at (Or.inr (by decide))])
          have f125 := zf hS_s5 ha (k := 24) rfl
          have g126 : s6 a 38 = s5 a 38 := (by rw [e_s6, zU_at (Or.inr (by decide))])
          have f127 := zf hS_s5 ha (k := 38) rfl
          have g128 : s6 a 51 = s5 a 51 := (by rw [e_s6, zU_at (Or.inr (by decide))])
          have f129 := zf hS_s5 ha (k := 51) rfl
          have g130 : s6 a 52 = s5 a 52 := (by rw [e_s6, zU_at (Or.inr (by decide))])
          have f131 := zf hS_s5 ha (k := 52) rfl
          refine j_callV hx hG (c_X12_readNumber hst a 0 60) lk_RX12_219 ha (by decide) rfl rfl rfl rfl [.int (zI 0), .int (zI 60)] ⟨rfl, hG, hS_s6, ha, (by omega), (by omega)⟩ rfl rfl ⟨by decide, by decide⟩ ⟨by decide, by decide⟩ (k2 := 0) (n2 := 0) rfl rfl (Nat.le_of_ble_eq_true rfl) dX12_readHeld_77 (kIM (fun v132 s7 hS_s7 hF_s7 q133 => ?_))
          refine j_iconst hx dX12_readHeld_80 ?_
          have f134 := zf hS_s7 ha (k := 5) rfl
          have f135 := zf hS_s7 ha (k := 38) rfl
          have g136 : (s7 (gP G a 31)) = (s0 (gP G a 31)) := by rw [(zFr_g hF_s7 (zr (k := 31) (t2 := 88) hG ha rfl) (by decide)), e_s6, zU_ne (zne (zr (k := 31) (t2 := 88) hG ha rfl) ha (by decide)), (zFr_g hF_s5 (zr (k := 31) (t2 := 88) hG ha rfl) (by decide)), (zFr_g hF_s1 (zr (k := 31) (t2 := 88) hG ha rfl) (by decide))]
          have g137 : zRp (s7 (gP G a 31)) 0 (s7 a 38).toNat = zRp (s0 (gP G a 31)) 0 (s0 a 38).toNat := by rw [g136, show s7 a 38 = s0 a 38 by omega]
          have f138 := zf hS_s7 ha (k := 0) rfl
          have f139 := zf hS_s7 ha (k := 3) rfl
          have f140 := zf hS_s7 ha (k := 4) rfl
          have f141 := zf hS_s7 ha (k := 7) rfl
          have f142 := zf hS_s7 ha (k := 21) rfl
          have f143 := zf hS_s7 ha (k := 22) rfl
          have f144 := zf hS_s7 ha (k := 23) rfl
          have f145 := zf hS_s7 ha (k := 24) rfl
          have f146 := zf hS_s7 ha (k := 51) rfl
          have f147 := zf hS_s7 ha (k := 52) rfl
          refine j_callV hx hG (c_X12_emit hst a x2 v132 0) lk_RX12_277 ha (by decide) rfl rfl rfl rfl [.int (zI x2), .int (zI v132), .int (zI 0)] ⟨rfl, hG, hS_s7, ha, (by omega), (by omega), (by omega), (by omega), ((by rw [(zFr_g hF_s7 (zr (k := 31) (t2 := 88) hG ha rfl) (by decide)), e_s6, zU_ne (zne (zr (k := 31) (t2 := 88) hG ha rfl) ha (by decide)), (zFr_g hF_s5 (zr (k := 31) (t2 := 88) hG ha rfl) (by decide)), (zFr_g hF_s1 (zr (k := 31) (t2 := 88) hG ha rfl) (by decide)), (zFr_g hF_s7 (zr (k := 32) (t2 := 89) hG ha rfl) (by decide)), e_s6, zU_ne (zne (zr (k := 32) (t2 := 89) hG ha rfl) ha (by decide)), (zFr_g hF_s5 (zr (k := 32) (t2 := 89) hG ha rfl) (by decide)), (zFr_g hF_s1 (zr (k := 32) (t2 := 89) hG ha rfl) (by decide))]; exact (zNv_k e3 (by omega) (by omega)))), (by omega)⟩ rfl rfl ⟨by decide, by decide⟩ ⟨by decide, by decide⟩ (k2 := 0) (n2 := 0) rfl rfl (Nat.le_of_ble_eq_true rfl) dX12_readHeld_81 (kVM (fun s8 hS_s8 hF_s8 q149 => ?_))
          have f150 := zf hS_s8 ha (k := 4) rfl
          have f151 := zf hS_s8 ha (k := 5) rfl
          have f152 := zf hS_s8 ha (k := 38) rfl
          have f153 := zf hS_s8 ha (k := 0) rfl
          have f154 := zf hS_s8 ha (k := 3) rfl
          have f155 := zf hS_s8 ha (k := 7) rfl
          have f156 := zf hS_s8 ha (k := 21) rfl
          have f157 := zf hS_s8 ha (k := 22) rfl
          have f158 := zf hS_s8 ha (k := 23) rfl
          have f159 := zf hS_s8 ha (k := 24) rfl
          have f160 := zf hS_s8 ha (k := 51) rfl
          have f161 := zf hS_s8 ha (k := 52) rfl
          exact j_vret hx hq rfl (by decide) (by decide) dX12_readHeld_84 ⟨rfl, rfl, hS_s8, (zFr_t (zFr_t (zFr_u (zFr_t (zFr_t zFr_rf hF_s1 (by decide)) hF_s5 (by decide)) e_s6 ha (by decide)) hF_s7 (by decide)) hF_s8 (by decide)), ⟨by omega, by omega, by omega, by omega, (zNv_k q149.2.1 (by omega) (by omega)), by omega, by omega, by omega, by omega, by omega, by omega, by omega, by omega, by omega⟩⟩
        · skip
          refine j_iload_n hx 3 dX12_readHeld_68 rfl ?_
          refine j_goto hx 73 dX12_readHeld_69 rfl ?_
          refine j_aload_n hx 2 dX12_readHeld_73 rfl ?_
          refine j_iconst hx dX12_readHeld_74 ?_
          refine j_bipush hx dX12_readHeld_75 rfl ?_
          have g162 : s6 a 4 = (s5 a 4) + 1 := (by rw [e_s6, zU_eq])
          have g163 : s6 a 5 = s5 a 5 := (by rw [e_s6, zU_at (Or.inr (by decide))])
          have f164 := zf hS_s5 ha (k := 5) rfl
          have g165 : s6 a 3 = s5 a 3 := (by rw [e_s6, zU_at (Or.inr (by decide))])
          have f166 := zf hS_s5 ha (k := 3) rfl
          have g167 : s6 a 0 = s5 a 0 := (by rw [e_s6, zU_at (Or.inr (by decide))])
          have f168 := zf hS_s5 ha (k := 0) rfl
          have g169 : s6 a 7 = s5 a 7 := (by rw [e_s6, zU_at (Or.inr (by decide))])
          have f170 := zf hS_s5 ha (k := 7) rfl
          have g171 : s6 a 21 = s5 a 21 := (by rw [e_s6, zU_at (Or.inr (by decide))])
          have f172 := zf hS_s5 ha (k := 21) rfl
          have g173 : s6 a 22 = s5 a 22 := (by rw [e_s6, zU_at (Or.inr (by decide))])
          have f174 := zf hS_s5 ha (k := 22) rfl
          have g175 : s6 a 23 = s5 a 23 := (by rw [e_s6, zU_at (Or.inr (by decide))])
          have f176 := zf hS_s5 ha (k := 23) rfl
          have g177 : s6 a 24 = s5 a 24 := (by rw [e_s6, zU_at (Or.inr (by decide))])
          have f178 := zf hS_s5 ha (k := 24) rfl
          have g179 : s6 a 38 = s5 a 38 := (by rw [e_s6, zU_at (Or.inr (by decide))])
          have f180 := zf hS_s5 ha (k := 38) rfl
          have g181 : s6 a 51 = s5 a 51 := (by rw [e_s6, zU_at (Or.inr (by decide))])
          have f182 := zf hS_s5 ha (k := 51) rfl
          have g183 : s6 a 52 = s5 a 52 := (by rw [e_s6, zU_at (Or.inr (by decide))])
          have f184 := zf hS_s5 ha (k := 52) rfl
          refine j_callV hx hG (c_X12_readNumber hst a 0 60) lk_RX12_219 ha (by decide) rfl rfl rfl rfl [.int (zI 0), .int (zI 60)] ⟨rfl, hG, hS_s6, ha, (by omega), (by omega)⟩ rfl rfl ⟨by decide, by decide⟩ ⟨by decide, by decide⟩ (k2 := 0) (n2 := 0) rfl rfl (Nat.le_of_ble_eq_true rfl) dX12_readHeld_77 (kIM (fun v185 s9 hS_s9 hF_s9 q186 => ?_))
          refine j_iconst hx dX12_readHeld_80 ?_
          have f187 := zf hS_s9 ha (k := 5) rfl
          have f188 := zf hS_s9 ha (k := 38) rfl
          have g189 : (s9 (gP G a 31)) = (s0 (gP G a 31)) := by rw [(zFr_g hF_s9 (zr (k := 31) (t2 := 88) hG ha rfl) (by decide)), e_s6, zU_ne (zne (zr (k := 31) (t2 := 88) hG ha rfl) ha (by decide)), (zFr_g hF_s5 (zr (k := 31) (t2 := 88) hG ha rfl) (by decide)), (zFr_g hF_s1 (zr (k := 31) (t2 := 88) hG ha rfl) (by decide))]
          have g190 : zRp (s9 (gP G a 31)) 0 (s9 a 38).toNat = zRp (s0 (gP G a 31)) 0 (s0 a 38).toNat := by rw [g189, show s9 a 38 = s0 a 38 by omega]
          have f191 := zf hS_s9 ha (k := 0) rfl
          have f192 := zf hS_s9 ha (k := 3) rfl
          have f193 := zf hS_s9 ha (k := 4) rfl
          have f194 := zf hS_s9 ha (k := 7) rfl
          have f195 := zf hS_s9 ha (k := 21) rfl
          have f196 := zf hS_s9 ha (k := 22) rfl
          have f197 := zf hS_s9 ha (k := 23) rfl
          have f198 := zf hS_s9 ha (k := 24) rfl
          have f199 := zf hS_s9 ha (k := 51) rfl
          have f200 := zf hS_s9 ha (k := 52) rfl
          refine j_callV hx hG (c_X12_emit hst a x1 v185 0) lk_RX12_277 ha (by decide) rfl rfl rfl rfl [.int (zI x1), .int (zI v185), .int (zI 0)] ⟨rfl, hG, hS_s9, ha, (by omega), (by omega), (by omega), (by omega), ((by rw [(zFr_g hF_s9 (zr (k := 31) (t2 := 88) hG ha rfl) (by decide)), e_s6, zU_ne (zne (zr (k := 31) (t2 := 88) hG ha rfl) ha (by decide)), (zFr_g hF_s5 (zr (k := 31) (t2 := 88) hG ha rfl) (by decide)), (zFr_g hF_s1 (zr (k := 31) (t2 := 88) hG ha rfl) (by decide)), (zFr_g hF_s9 (zr (k := 32) (t2 := 89) hG ha rfl) (by decide)), e_s6, zU_ne (zne (zr (k := 32) (t2 := 89) hG ha rfl) ha (by decide)), (zFr_g hF_s5 (zr (k := 32) (t2 := 89) hG ha rfl) (by decide)), (zFr_g hF_s1 (zr (k := 32) (t2 := 89) hG ha rfl) (by decide))]; exact (zNv_k e3 (by omega) (by omega)))), (by omega)⟩ rfl rfl ⟨by decide, by decide⟩ ⟨by decide, by decide⟩ (k2 := 0) (n2 := 0) rfl rfl (Nat.le_of_ble_eq_true rfl) dX12_readHeld_81 (kVM (fun s10 hS_s10 hF_s10 q202 => ?_))
          have f203 := zf hS_s10 ha (k := 4) rfl
          have f204 := zf hS_s10 ha (k := 5) rfl
          have f205 := zf hS_s10 ha (k := 38) rfl
          have f206 := zf hS_s10 ha (k := 0) rfl
          have f207 := zf hS_s10 ha (k := 3) rfl
          have f208 := zf hS_s10 ha (k := 7) rfl
          have f209 := zf hS_s10 ha (k := 21) rfl
          have f210 := zf hS_s10 ha (k := 22) rfl
          have f211 := zf hS_s10 ha (k := 23) rfl
          have f212 := zf hS_s10 ha (k := 24) rfl
          have f213 := zf hS_s10 ha (k := 51) rfl
          have f214 := zf hS_s10 ha (k := 52) rfl
          exact j_vret hx hq rfl (by decide) (by decide) dX12_readHeld_84 ⟨rfl, rfl, hS_s10, (zFr_t (zFr_t (zFr_u (zFr_t (zFr_t zFr_rf hF_s1 (by decide)) hF_s5 (by decide)) e_s6 ha (by decide)) hF_s9 (by decide)) hF_s10 (by decide)), ⟨by omega, by omega, by omega, by omega, (zNv_k q202.2.1 (by omega) (by omega)), by omega, by omega, by omega, by omega, by omega, by omega, by omega, by omega, by omega⟩⟩
      · skip
        have f215 := zf hS_s5 ha (k := 4) rfl
        have f216 := zf hS_s5 ha (k := 5) rfl
        have f217 := zf hS_s5 ha (k := 38) rfl
        have g218 : (s5 (gP G a 31)) = (s0 (gP G a 31)) := by rw [(zFr_g hF_s5 (zr (k := 31) (t2 := 88) hG ha rfl) (by decide)), (zFr_g hF_s1 (zr (k := 31) (t2 := 88) hG ha rfl) (by decide))]
        have g219 : zRp (s5 (gP G a 31)) 0 (s5 a 38).toNat = zRp (s0 (gP G a 31)) 0 (s0 a 38).toNat := by rw [g218, show s5 a 38 = s0 a 38 by omega]
        have f220 := zf hS_s5 ha (k := 0) rfl
        have f221 := zf hS_s5 ha (k := 3) rfl
        have f222 := zf hS_s5 ha (k := 7) rfl
        have f223 := zf hS_s5 ha (k := 21) rfl
        have f224 := zf hS_s5 ha (k := 22) rfl
        have f225 := zf hS_s5 ha (k := 23) rfl
        have f226 := zf hS_s5 ha (k := 24) rfl
        have f227 := zf hS_s5 ha (k := 51) rfl
        have f228 := zf hS_s5 ha (k := 52) rfl
        exact j_vret hx hq rfl (by decide) (by decide) dX12_readHeld_50 ⟨rfl, rfl, hS_s5, (zFr_t (zFr_t zFr_rf hF_s1 (by decide)) hF_s5 (by decide)), ⟨by omega, by omega, by omega, by omega, (by rw [(zFr_g hF_s5 (zr (k := 31) (t2 := 88) hG ha rfl) (by decide)), (zFr_g hF_s1 (zr (k := 31) (t2 := 88) hG ha rfl) (by decide)), (zFr_g hF_s5 (zr (k := 32) (t2 := 89) hG ha rfl) (by decide)), (zFr_g hF_s1 (zr (k := 32) (t2 := 89) hG ha rfl) (by decide))]; exact (zNv_k e3 (by omega) (by omega))), by omega, by omega, by omega, by omega, by omega, by omega, by omega, by omega, by omega⟩⟩
    · skip
      refine j_iload_n hx 2 dX12_readHeld_17 rfl ?_
      refine j_iconst hx dX12_readHeld_18 ?_
      refine j_icmp_eq hx 26 dX12_readHeld_19 rfl (by omega) ⟨by decide, by decide⟩ (fun h229 => ?_) (fun h229 => ?_)
      · skip
        refine j_iconst hx dX12_readHeld_26 ?_
        refine j_istore hx [(4, .int (zI 0)), (3, .int (zI v13)), (0, .ref a), (1, .int (zI x1)), (2, .int (zI x2))] dX12_readHeld_27 (by decide) rfl ?_
        refine j_iload hx 0 dX12_readHeld_29 rfl ?_
        refine j_if_ne hx 43 dX12_readHeld_31 rfl ⟨by decide, by decide⟩ (fun h230 => absurd h230 (by omega)) (fun h230 => ?_)
        refine j_aload_n hx 2 dX12_readHeld_34 rfl ?_
        refine j_iconst hx dX12_readHeld_35 ?_
        refine j_aload_n hx 2 dX12_readHeld_36 rfl ?_
        have f231 := zf hS_s1 ha (k := 4) rfl
        refine g13_4 hx hG ha kf_RX12_143 rfl dX12_readHeld_37 ?_
        have f232 := zf hS_s1 ha (k := 0) rfl
        have f233 := zf hS_s1 ha (k := 3) rfl
        have f234 := zf hS_s1 ha (k := 7) rfl
        have f235 := zf hS_s1 ha (k := 21) rfl
        have f236 := zf hS_s1 ha (k := 22) rfl
        have f237 := zf hS_s1 ha (k := 23) rfl
        have f238 := zf hS_s1 ha (k := 24) rfl
        have f239 := zf hS_s1 ha (k := 38) rfl
        have f240 := zf hS_s1 ha (k := 51) rfl
        have f241 := zf hS_s1 ha (k := 52) rfl
        refine j_callV hx hG (c_X12_wrong hst a 1 ((s1 a 4))) lk_RX12_173 ha (by decide) rfl rfl rfl rfl [.int (zI 1), .int (zI ((s1 a 4)))] ⟨rfl, hG, hS_s1, ha, (by omega), (by omega)⟩ rfl rfl ⟨by decide, by decide⟩ ⟨by decide, by decide⟩ (k2 := 0) (n2 := 0) rfl rfl (Nat.le_of_ble_eq_true rfl) dX12_readHeld_40 (kVM (fun s11 hS_s11 hF_s11 q243 => ?_))
        refine j_aload_n hx 2 dX12_readHeld_43 rfl ?_
        refine j_callV hx hG (c_X12_fine hst a) lk_RX12_166 ha (by decide) rfl rfl rfl rfl [] ⟨rfl, hG, hS_s11, ha⟩ rfl rfl ⟨by decide, by decide⟩ ⟨by decide, by decide⟩ (k2 := 0) (n2 := 0) rfl rfl (Nat.le_of_ble_eq_true rfl) dX12_readHeld_44 (kIP (fun v244 q245 => ?_))
        refine j_if_ne hx 51 dX12_readHeld_47 rfl (by omega) (fun h246 => ?_) (fun h246 => ?_)
        · skip
          refine j_aload_n hx 2 dX12_readHeld_51 rfl ?_
          refine j_dup hx dX12_readHeld_52 rfl ?_
          have f247 := zf hS_s11 ha (k := 4) rfl
          refine g13_4 hx hG ha kf_RX12_143 rfl dX12_readHeld_53 ?_
          refine j_iconst hx dX12_readHeld_56 ?_
          refine j_iadd hx (r := (s11 a 4) + 1) dX12_readHeld_57 (by omega) ?_
          refine p13_4 hx hG ha kf_RX12_143 dX12_readHeld_58 ?_
          obtain ⟨s12, e_s12⟩ : ∃ z, z = zU s11 a 4 ((s11 a 4) + 1) := ⟨_, rfl⟩
          rw [← e_s12]
          have hS_s12 : zSK G s12 := by rw [e_s12]; exact zSK_F hS_s11 ha rfl rfl rfl (by omega)
          refine j_aload_n hx 2 dX12_readHeld_61 rfl ?_
          refine j_iload_n hx 1 dX12_readHeld_62 rfl ?_
          refine j_bipush hx dX12_readHeld_63 rfl ?_
          refine j_icmp_ne hx 72 dX12_readHeld_65 rfl (by omega) ⟨by decide, by decide⟩ (fun h248 => absurd h248 (by omega)) (fun h248 => ?_)
          refine j_iload_n hx 3 dX12_readHeld_68 rfl ?_
          refine j_goto hx 73 dX12_readHeld_69 rfl ?_
          refine j_aload_n hx 2 dX12_readHeld_73 rfl ?_
          refine j_iconst hx dX12_readHeld_74 ?_
          refine j_bipush hx dX12_readHeld_75 rfl ?_
          have g249 : s12 a 4 = (s11 a 4) + 1 := (by rw [e_s12, zU_eq])
          have g250 : s12 a 5 = s11 a 5 := (by rw [e_s12, zU_at (Or.inr (by decide))])
          have f251 := zf hS_s11 ha (k := 5) rfl
          have g252 : s12 a 3 = s11 a 3 := (by rw [e_s12, zU_at (Or.inr (by decide))])
          have f253 := zf hS_s11 ha (k := 3) rfl
          have g254 : s12 a 0 = s11 a 0 := (by rw [e_s12, zU_at (Or.inr (by decide))])
          have f255 := zf hS_s11 ha (k := 0) rfl
          have g256 : s12 a 7 = s11 a 7 := (by rw [e_s12, zU_at (Or.inr (by decide))])
          have f257 := zf hS_s11 ha (k := 7) rfl
          have g258 : s12 a 21 = s11 a 21 := (by rw [e_s12, zU_at (Or.inr (by decide))])
          have f259 := zf hS_s11 ha (k := 21) rfl
          have g260 : s12 a 22 = s11 a 22 := (by rw [e_s12, zU_at (Or.inr (by decide))])
          have f261 := zf hS_s11 ha (k := 22) rfl
          have g262 : s12 a 23 = s11 a 23 := (by rw [e_s12, zU_at (Or.inr (by decide))])
          have f263 := zf hS_s11 ha (k := 23) rfl
          have g264 : s12 a 24 = s11 a 24 := (by rw [e_s12, zU_at (Or.inr (by decide))])
          have f265 := zf hS_s11 ha (k := 24) rfl
          have g266 : s12 a 38 = s11 a 38 := (by rw [e_s12, zU_at (Or.inr (by decide))])
          have f267 := zf hS_s11 ha (k := 38) rfl
          have g268 : s12 a 51 = s11 a 51 := (by rw [e_s12, zU_at (Or.inr (by decide))])
          have f269 := zf hS_s11 ha (k := 51) rfl
          have g270 : s12 a 52 = s11 a 52 := (by rw [e_s12, zU_at (Or.inr (by decide))])
          have f271 := zf hS_s11 ha (k := 52) rfl
          refine j_callV hx hG (c_X12_readNumber hst a 0 60) lk_RX12_219 ha (by decide) rfl rfl rfl rfl [.int (zI 0), .int (zI 60)] ⟨rfl, hG, hS_s12, ha, (by omega), (by omega)⟩ rfl rfl ⟨by decide, by decide⟩ ⟨by decide, by decide⟩ (k2 := 0) (n2 := 0) rfl rfl (Nat.le_of_ble_eq_true rfl) dX12_readHeld_77 (kIM (fun v272 s13 hS_s13 hF_s13 q273 => ?_))
          refine j_iconst hx dX12_readHeld_80 ?_
          have f274 := zf hS_s13 ha (k := 5) rfl
          have f275 := zf hS_s13 ha (k := 38) rfl
          have g276 : (s13 (gP G a 31)) = (s0 (gP G a 31)) := by rw [(zFr_g hF_s13 (zr (k := 31) (t2 := 88) hG ha rfl) (by decide)), e_s12, zU_ne (zne (zr (k := 31) (t2 := 88) hG ha rfl) ha (by decide)), (zFr_g hF_s11 (zr (k := 31) (t2 := 88) hG ha rfl) (by decide)), (zFr_g hF_s1 (zr (k := 31) (t2 := 88) hG ha rfl) (by decide))]
          have g277 : zRp (s13 (gP G a 31)) 0 (s13 a 38).toNat = zRp (s0 (gP G a 31)) 0 (s0 a 38).toNat := by rw [g276, show s13 a 38 = s0 a 38 by omega]
          have f278 := zf hS_s13 ha (k := 0) rfl
          have f279 := zf hS_s13 ha (k := 3) rfl
          have f280 := zf hS_s13 ha (k := 4) rfl
          have f281 := zf hS_s13 ha (k := 7) rfl
          have f282 := zf hS_s13 ha (k := 21) rfl
          have f283 := zf hS_s13 ha (k := 22) rfl
          have f284 := zf hS_s13 ha (k := 23) rfl
          have f285 := zf hS_s13 ha (k := 24) rfl
          have f286 := zf hS_s13 ha (k := 51) rfl
          have f287 := zf hS_s13 ha (k := 52) rfl
          refine j_callV hx hG (c_X12_emit hst a x1 v272 0) lk_RX12_277 ha (by decide) rfl rfl rfl rfl [.int (zI x1), .int (zI v272), .int (zI 0)] ⟨rfl, hG, hS_s13, ha, (by omega), (by omega), (by omega), (by omega), ((by rw [(zFr_g hF_s13 (zr (k := 31) (t2 := 88) hG ha rfl) (by decide)), e_s12, zU_ne (zne (zr (k := 31) (t2 := 88) hG ha rfl) ha (by decide)), (zFr_g hF_s11 (zr (k := 31) (t2 := 88) hG ha rfl) (by decide)), (zFr_g hF_s1 (zr (k := 31) (t2 := 88) hG ha rfl) (by decide)), (zFr_g hF_s13 (zr (k := 32) (t2 := 89) hG ha rfl) (by decide)), e_s12, zU_ne (zne (zr (k := 32) (t2 := 89) hG ha rfl) ha (by decide)), (zFr_g hF_s11 (zr (k := 32) (t2 := 89) hG ha rfl) (by decide)), (zFr_g hF_s1 (zr (k := 32) (t2 := 89) hG ha rfl) (by decide))]; exact (zNv_k e3 (by omega) (by omega)))), (by omega)⟩ rfl rfl ⟨by decide, by decide⟩ ⟨by decide, by decide⟩ (k2 := 0) (n2 := 0) rfl rfl (Nat.le_of_ble_eq_true rfl) dX12_readHeld_81 (kVM (fun s14 hS_s14 hF_s14 q289 => ?_))
          have f290 := zf hS_s14 ha (k := 4) rfl
          have f291 := zf hS_s14 ha (k := 5) rfl
          have f292 := zf hS_s14 ha (k := 38) rfl
          have f293 := zf hS_s14 ha (k := 0) rfl
          have f294 := zf hS_s14 ha (k := 3) rfl
          have f295 := zf hS_s14 ha (k := 7) rfl
          have f296 := zf hS_s14 ha (k := 21) rfl
          have f297 := zf hS_s14 ha (k := 22) rfl
          have f298 := zf hS_s14 ha (k := 23) rfl
          have f299 := zf hS_s14 ha (k := 24) rfl
          have f300 := zf hS_s14 ha (k := 51) rfl
          have f301 := zf hS_s14 ha (k := 52) rfl
          exact j_vret hx hq rfl (by decide) (by decide) dX12_readHeld_84 ⟨rfl, rfl, hS_s14, (zFr_t (zFr_t (zFr_u (zFr_t (zFr_t zFr_rf hF_s1 (by decide)) hF_s11 (by decide)) e_s12 ha (by decide)) hF_s13 (by decide)) hF_s14 (by decide)), ⟨by omega, by omega, by omega, by omega, (zNv_k q289.2.1 (by omega) (by omega)), by omega, by omega, by omega, by omega, by omega, by omega, by omega, by omega, by omega⟩⟩
        · skip
          have f302 := zf hS_s11 ha (k := 4) rfl
          have f303 := zf hS_s11 ha (k := 5) rfl
          have f304 := zf hS_s11 ha (k := 38) rfl
          have g305 : (s11 (gP G a 31)) = (s0 (gP G a 31)) := by rw [(zFr_g hF_s11 (zr (k := 31) (t2 := 88) hG ha rfl) (by decide)), (zFr_g hF_s1 (zr (k := 31) (t2 := 88) hG ha rfl) (by decide))]
          have g306 : zRp (s11 (gP G a 31)) 0 (s11 a 38).toNat = zRp (s0 (gP G a 31)) 0 (s0 a 38).toNat := by rw [g305, show s11 a 38 = s0 a 38 by omega]
          have f307 := zf hS_s11 ha (k := 0) rfl
          have f308 := zf hS_s11 ha (k := 3) rfl
          have f309 := zf hS_s11 ha (k := 7) rfl
          have f310 := zf hS_s11 ha (k := 21) rfl
          have f311 := zf hS_s11 ha (k := 22) rfl
          have f312 := zf hS_s11 ha (k := 23) rfl
          have f313 := zf hS_s11 ha (k := 24) rfl
          have f314 := zf hS_s11 ha (k := 51) rfl
          have f315 := zf hS_s11 ha (k := 52) rfl
          exact j_vret hx hq rfl (by decide) (by decide) dX12_readHeld_50 ⟨rfl, rfl, hS_s11, (zFr_t (zFr_t zFr_rf hF_s1 (by decide)) hF_s11 (by decide)), ⟨by omega, by omega, by omega, by omega, (by rw [(zFr_g hF_s11 (zr (k := 31) (t2 := 88) hG ha rfl) (by decide)), (zFr_g hF_s1 (zr (k := 31) (t2 := 88) hG ha rfl) (by decide)), (zFr_g hF_s11 (zr (k := 32) (t2 := 89) hG ha rfl) (by decide)), (zFr_g hF_s1 (zr (k := 32) (t2 := 89) hG ha rfl) (by decide))]; exact (zNv_k e3 (by omega) (by omega))), by omega, by omega, by omega, by omega, by omega, by omega, by omega, by omega, by omega⟩⟩
      · skip
        refine j_iconst hx dX12_readHeld_22 ?_
        refine j_goto hx 27 dX12_readHeld_23 rfl ?_
        refine j_istore hx [(4, .int (zI 1)), (3, .int (zI v13)), (0, .ref a), (1, .int (zI x1)), (2, .int (zI x2))] dX12_readHeld_27 (by decide) rfl ?_
        refine j_iload hx 0 dX12_readHeld_29 rfl ?_
        refine j_if_ne hx 43 dX12_readHeld_31 rfl ⟨by decide, by decide⟩ (fun h316 => ?_) (fun h316 => absurd h316 (by omega))
        refine j_aload_n hx 2 dX12_readHeld_43 rfl ?_
        refine j_callV hx hG (c_X12_fine hst a) lk_RX12_166 ha (by decide) rfl rfl rfl rfl [] ⟨rfl, hG, hS_s1, ha⟩ rfl rfl ⟨by decide, by decide⟩ ⟨by decide, by decide⟩ (k2 := 0) (n2 := 0) rfl rfl (Nat.le_of_ble_eq_true rfl) dX12_readHeld_44 (kIP (fun v317 q318 => ?_))
        refine j_if_ne hx 51 dX12_readHeld_47 rfl (by omega) (fun h319 => ?_) (fun h319 => ?_)
        · skip
          refine j_aload_n hx 2 dX12_readHeld_51 rfl ?_
          refine j_dup hx dX12_readHeld_52 rfl ?_
          have f320 := zf hS_s1 ha (k := 4) rfl
          refine g13_4 hx hG ha kf_RX12_143 rfl dX12_readHeld_53 ?_
          refine j_iconst hx dX12_readHeld_56 ?_
          refine j_iadd hx (r := (s1 a 4) + 1) dX12_readHeld_57 (by omega) ?_
          refine p13_4 hx hG ha kf_RX12_143 dX12_readHeld_58 ?_
          obtain ⟨s15, e_s15⟩ : ∃ z, z = zU s1 a 4 ((s1 a 4) + 1) := ⟨_, rfl⟩
          rw [← e_s15]
          have hS_s15 : zSK G s15 := by rw [e_s15]; exact zSK_F hS_s1 ha rfl rfl rfl (by omega)
          refine j_aload_n hx 2 dX12_readHeld_61 rfl ?_
          refine j_iload_n hx 1 dX12_readHeld_62 rfl ?_
          refine j_bipush hx dX12_readHeld_63 rfl ?_
          refine j_icmp_ne hx 72 dX12_readHeld_65 rfl (by omega) ⟨by decide, by decide⟩ (fun h321 => absurd h321 (by omega)) (fun h321 => ?_)
          refine j_iload_n hx 3 dX12_readHeld_68 rfl ?_
          refine j_goto hx 73 dX12_readHeld_69 rfl ?_
          refine j_aload_n hx 2 dX12_readHeld_73 rfl ?_
          refine j_iconst hx dX12_readHeld_74 ?_
          refine j_bipush hx dX12_readHeld_75 rfl ?_
          have g322 : s15 a 4 = (s1 a 4) + 1 := (by rw [e_s15, zU_eq])
          have g323 : s15 a 5 = s1 a 5 := (by rw [e_s15, zU_at (Or.inr (by decide))])
          have f324 := zf hS_s1 ha (k := 5) rfl
          have g325 : s15 a 3 = s1 a 3 := (by rw [e_s15, zU_at (Or.inr (by decide))])
          have f326 := zf hS_s1 ha (k := 3) rfl
          have g327 : s15 a 0 = s1 a 0 := (by rw [e_s15, zU_at (Or.inr (by decide))])
          have f328 := zf hS_s1 ha (k := 0) rfl
          have g329 : s15 a 7 = s1 a 7 := (by rw [e_s15, zU_at (Or.inr (by decide))])
          have f330 := zf hS_s1 ha (k := 7) rfl
          have g331 : s15 a 21 = s1 a 21 := (by rw [e_s15, zU_at (Or.inr (by decide))])
          have f332 := zf hS_s1 ha (k := 21) rfl
          have g333 : s15 a 22 = s1 a 22 := (by rw [e_s15, zU_at (Or.inr (by decide))])
          have f334 := zf hS_s1 ha (k := 22) rfl
          have g335 : s15 a 23 = s1 a 23 := (by rw [e_s15, zU_at (Or.inr (by decide))])
          have f336 := zf hS_s1 ha (k := 23) rfl
          have g337 : s15 a 24 = s1 a 24 := (by rw [e_s15, zU_at (Or.inr (by decide))])
          have f338 := zf hS_s1 ha (k := 24) rfl
          have g339 : s15 a 38 = s1 a 38 := (by rw [e_s15, zU_at (Or.inr (by decide))])
          have f340 := zf hS_s1 ha (k := 38) rfl
          have g341 : s15 a 51 = s1 a 51 := (by rw [e_s15, zU_at (Or.inr (by decide))])
          have f342 := zf hS_s1 ha (k := 51) rfl
          have g343 : s15 a 52 = s1 a 52 := (by rw [e_s15, zU_at (Or.inr (by decide))])
          have f344 := zf hS_s1 ha (k := 52) rfl
          refine j_callV hx hG (c_X12_readNumber hst a 0 60) lk_RX12_219 ha (by decide) rfl rfl rfl rfl [.int (zI 0), .int (zI 60)] ⟨rfl, hG, hS_s15, ha, (by omega), (by omega)⟩ rfl rfl ⟨by decide, by decide⟩ ⟨by decide, by decide⟩ (k2 := 0) (n2 := 0) rfl rfl (Nat.le_of_ble_eq_true rfl) dX12_readHeld_77 (kIM (fun v345 s16 hS_s16 hF_s16 q346 => ?_))
          refine j_iconst hx dX12_readHeld_80 ?_
          have f347 := zf hS_s16 ha (k := 5) rfl
          have f348 := zf hS_s16 ha (k := 38) rfl
          have g349 : (s16 (gP G a 31)) = (s0 (gP G a 31)) := by rw [(zFr_g hF_s16 (zr (k := 31) (t2 := 88) hG ha rfl) (by decide)), e_s15, zU_ne (zne (zr (k := 31) (t2 := 88) hG ha rfl) ha (by decide)), (zFr_g hF_s1 (zr (k := 31) (t2 := 88) hG ha rfl) (by decide))]
          have g350 : zRp (s16 (gP G a 31)) 0 (s16 a 38).toNat = zRp (s0 (gP G a 31)) 0 (s0 a 38).toNat := by rw [g349, show s16 a 38 = s0 a 38 by omega]
          have f351 := zf hS_s16 ha (k := 0) rfl
          have f352 := zf hS_s16 ha (k := 3) rfl
          have f353 := zf hS_s16 ha (k := 4) rfl
          have f354 := zf hS_s16 ha (k := 7) rfl
          have f355 := zf hS_s16 ha (k := 21) rfl
          have f356 := zf hS_s16 ha (k := 22) rfl
          have f357 := zf hS_s16 ha (k := 23) rfl
          have f358 := zf hS_s16 ha (k := 24) rfl
          have f359 := zf hS_s16 ha (k := 51) rfl
          have f360 := zf hS_s16 ha (k := 52) rfl
          refine j_callV hx hG (c_X12_emit hst a x1 v345 0) lk_RX12_277 ha (by decide) rfl rfl rfl rfl [.int (zI x1), .int (zI v345), .int (zI 0)] ⟨rfl, hG, hS_s16, ha, (by omega), (by omega), (by omega), (by omega), ((by rw [(zFr_g hF_s16 (zr (k := 31) (t2 := 88) hG ha rfl) (by decide)), e_s15, zU_ne (zne (zr (k := 31) (t2 := 88) hG ha rfl) ha (by decide)), (zFr_g hF_s1 (zr (k := 31) (t2 := 88) hG ha rfl) (by decide)), (zFr_g hF_s16 (zr (k := 32) (t2 := 89) hG ha rfl) (by decide)), e_s15, zU_ne (zne (zr (k := 32) (t2 := 89) hG ha rfl) ha (by decide)), (zFr_g hF_s1 (zr (k := 32) (t2 := 89) hG ha rfl) (by decide))]; exact (zNv_k e3 (by omega) (by omega)))), (by omega)⟩ rfl rfl ⟨by decide, by decide⟩ ⟨by decide, by decide⟩ (k2 := 0) (n2 := 0) rfl rfl (Nat.le_of_ble_eq_true rfl) dX12_readHeld_81 (kVM (fun s17 hS_s17 hF_s17 q362 => ?_))
          have f363 := zf hS_s17 ha (k := 4) rfl
          have f364 := zf hS_s17 ha (k := 5) rfl
          have f365 := zf hS_s17 ha (k := 38) rfl
          have f366 := zf hS_s17 ha (k := 0) rfl
          have f367 := zf hS_s17 ha (k := 3) rfl
          have f368 := zf hS_s17 ha (k := 7) rfl
          have f369 := zf hS_s17 ha (k := 21) rfl
          have f370 := zf hS_s17 ha (k := 22) rfl
          have f371 := zf hS_s17 ha (k := 23) rfl
          have f372 := zf hS_s17 ha (k := 24) rfl
          have f373 := zf hS_s17 ha (k := 51) rfl
          have f374 := zf hS_s17 ha (k := 52) rfl
          exact j_vret hx hq rfl (by decide) (by decide) dX12_readHeld_84 ⟨rfl, rfl, hS_s17, (zFr_t (zFr_t (zFr_u (zFr_t zFr_rf hF_s1 (by decide)) e_s15 ha (by decide)) hF_s16 (by decide)) hF_s17 (by decide)), ⟨by omega, by omega, by omega, by omega, (zNv_k q362.2.1 (by omega) (by omega)), by omega, by omega, by omega, by omega, by omega, by omega, by omega, by omega, by omega⟩⟩
        · skip
          have f375 := zf hS_s1 ha (k := 4) rfl
          have f376 := zf hS_s1 ha (k := 5) rfl
          have f377 := zf hS_s1 ha (k := 38) rfl
          have g378 : (s1 (gP G a 31)) = (s0 (gP G a 31)) := by rw [(zFr_g hF_s1 (zr (k := 31) (t2 := 88) hG ha rfl) (by decide))]
          have g379 : zRp (s1 (gP G a 31)) 0 (s1 a 38).toNat = zRp (s0 (gP G a 31)) 0 (s0 a 38).toNat := by rw [g378, show s1 a 38 = s0 a 38 by omega]
          have f380 := zf hS_s1 ha (k := 0) rfl
          have f381 := zf hS_s1 ha (k := 3) rfl
          have f382 := zf hS_s1 ha (k := 7) rfl
          have f383 := zf hS_s1 ha (k := 21) rfl
          have f384 := zf hS_s1 ha (k := 22) rfl
          have f385 := zf hS_s1 ha (k := 23) rfl
          have f386 := zf hS_s1 ha (k := 24) rfl
          have f387 := zf hS_s1 ha (k := 51) rfl
          have f388 := zf hS_s1 ha (k := 52) rfl
          exact j_vret hx hq rfl (by decide) (by decide) dX12_readHeld_50 ⟨rfl, rfl, hS_s1, (zFr_t zFr_rf hF_s1 (by decide)), ⟨by omega, by omega, by omega, by omega, (by rw [(zFr_g hF_s1 (zr (k := 31) (t2 := 88) hG ha rfl) (by decide)), (zFr_g hF_s1 (zr (k := 32) (t2 := 89) hG ha rfl) (by decide))]; exact (zNv_k e3 (by omega) (by omega))), by omega, by omega, by omega, by omega, by omega, by omega, by omega, by omega, by omega⟩⟩

set_option maxHeartbeats 4000000 in
set_option maxRecDepth 20000 in
theorem c_X12_readKind {E : zE} {l : Launch} (hst : l.stackTraces = false) (a : Nat) : Con E l yX12_readKind cX12_readKind 3 (some .int) { frames := 1, cells := 0, slots := 0, locals := 22 } (fun G s vs => vs = [.ref a] ∧ zGK G ∧ zSK G s ∧ (gT G a = 13)) (fun G s _ => pI (fun r G2 s2 => G2 = G ∧ zSK G s2 ∧ zFr [13] G s s2 ∧ ((-2147483648) ≤ r ∧ r ≤ 2147483647) ∧ s a 4 ≤ s2 a 4 ∧ 0 ≤ s a 5 → 0 ≤ s2 a 5 ∧ (s2 a 5 = -1 → s2 a 4 ≤ s a 3 ∧ s a 4 + 1 ≤ s2 a 4) ∧ s2 a 4 ≤ s a 4 ∨ s2 a 4 ≤ s a 3 ∧ s2 a 0 = s a 0 ∧ s2 a 3 = s a 3 ∧ s2 a 7 = s a 7 ∧ s2 a 21 = s a 21 ∧ s2 a 22 = s a 22 ∧ s2 a 23 = s a 23 ∧ s2 a 24 = s a 24 ∧ s2 a 38 = s a 38 ∧ s2 a 51 = s a 51 ∧ s2 a 52 = s a 52)) := by
  refine Con.mk hst (by decide) (fun G s vs h => by rw [h.1]; exact Nat.le_of_ble_eq_true rfl) ?_
  rintro X G s0 vs ⟨rfl, hG, hS0, ha⟩ rfl hx hq
  show JJ X E 3 G s0 0 0 [(0, .ref a)] 0 []
  refine j_aload_n hx 0 dX12_readKind_0 rfl ?_
  refine j_callV hx hG (c_X12_fine hst a) lk_RX12_166 ha (by decide) rfl rfl rfl rfl [] ⟨rfl, hG, hS0, ha⟩ rfl rfl ⟨by decide, by decide⟩ ⟨by decide, by decide⟩ (k2 := 0) (n2 := 0) rfl rfl (Nat.le_of_ble_eq_true rfl) dX12_readKind_1 (kIP (fun v1 q2 => ?_))
  refine j_if_ne hx 9 dX12_readKind_4 rfl (by omega) (fun h3 => ?_) (fun h3 => ?_)
  · skip
    refine j_aload_n hx 0 dX12_readKind_9 rfl ?_
    have f4 := zf hS0 ha (k := 4) rfl
    have f5 := zf hS0 ha (k := 3) rfl
    have f6 := zf hS0 ha (k := 0) rfl
    have f7 := zf hS0 ha (k := 5) rfl
    have f8 := zf hS0 ha (k := 7) rfl
    have f9 := zf hS0 ha (k := 21) rfl
    have f10 := zf hS0 ha (k := 22) rfl
    have f11 := zf hS0 ha (k := 23) rfl
    have f12 := zf hS0 ha (k := 24) rfl
    have f13 := zf hS0 ha (k := 38) rfl
    have f14 := zf hS0 ha (k := 51) rfl
    have f15 := zf hS0 ha (k := 52) rfl
    refine j_callV hx hG (c_X12_here hst a) lk_RX12_149 ha (by decide) rfl rfl rfl rfl [] ⟨rfl, hG, hS0, ha⟩ rfl rfl ⟨by decide, by decide⟩ ⟨by decide, by decide⟩ (k2 := 0) (n2 := 0) rfl rfl (Nat.le_of_ble_eq_true rfl) dX12_readKind_10 (kIM (fun v16 s1 hS_s1 hF_s1 q17 => ?_))
    refine j_istore_n hx [(1, .int (zI v16)), (0, .ref a)] dX12_readKind_13 (by decide) rfl ?_
    refine j_iload_n hx 0 dX12_readKind_14 rfl ?_
    refine j_callS hx (c_X12_isKind hst v16) lk_RX12_210 [.int (zI v16)] ⟨rfl, hG, hS_s1, (by omega)⟩ rfl rfl ⟨by decide, by decide⟩ ⟨by decide, by decide⟩ (k2 := 0) (n2 := 0) rfl rfl (Nat.le_of_ble_eq_true rfl) dX12_readKind_15 (kIP (fun v18 q19 => ?_))
    refine j_if_eq hx 55 dX12_readKind_18 rfl (by omega) (fun h20 => ?_) (fun h20 => ?_)
    · skip
      refine j_iconst hx dX12_readKind_55 ?_
      refine j_istore_n hx [(2, .int (zI 0)), (1, .int (zI v16)), (0, .ref a)] dX12_readKind_56 (by decide) rfl ?_
      refine j_iload_n hx 0 dX12_readKind_57 rfl ?_
      refine j_if_ne hx 73 dX12_readKind_58 rfl ⟨by decide, by decide⟩ (fun h21 => absurd h21 (by omega)) (fun h21 => ?_)
      refine j_aload_n hx 2 dX12_readKind_61 rfl ?_
      refine j_iconst hx dX12_readKind_62 ?_
      refine j_aload_n hx 2 dX12_readKind_63 rfl ?_
      have f22 := zf hS_s1 ha (k := 4) rfl
      refine g13_4 hx hG ha kf_RX12_143 rfl dX12_readKind_64 ?_
      have f23 := zf hS_s1 ha (k := 0) rfl
      have f24 := zf hS_s1 ha (k := 3) rfl
      have f25 := zf hS_s1 ha (k := 7) rfl
      have f26 := zf hS_s1 ha (k := 21) rfl
      have f27 := zf hS_s1 ha (k := 22) rfl
      have f28 := zf hS_s1 ha (k := 23) rfl
      have f29 := zf hS_s1 ha (k := 24) rfl
      have f30 := zf hS_s1 ha (k := 38) rfl
      have f31 := zf hS_s1 ha (k := 51) rfl
      have f32 := zf hS_s1 ha (k := 52) rfl
      refine j_callV hx hG (c_X12_wrong hst a 1 ((s1 a 4))) lk_RX12_173 ha (by decide) rfl rfl rfl rfl [.int (zI 1), .int (zI ((s1 a 4)))] ⟨rfl, hG, hS_s1, ha, (by omega), (by omega)⟩ rfl rfl ⟨by decide, by decide⟩ ⟨by decide, by decide⟩ (k2 := 0) (n2 := 0) rfl rfl (Nat.le_of_ble_eq_true rfl) dX12_readKind_67 (kVM (fun s2 hS_s2 hF_s2 q34 => ?_))
      refine j_goto hx 83 dX12_readKind_70 rfl ?_
      refine j_iload_n hx 1 dX12_readKind_83 rfl ?_
      refine j_bipush hx dX12_readKind_84 rfl ?_
      refine j_isub hx (r := v16 - 97) dX12_readKind_86 rfl ?_
      have f35 := zf hS_s2 ha (k := 4) rfl
      have f36 := zf hS_s2 ha (k := 5) rfl
      have f37 := zf hS_s2 ha (k := 0) rfl
      have f38 := zf hS_s2 ha (k := 3) rfl
      have f39 := zf hS_s2 ha (k := 7) rfl
      have f40 := zf hS_s2 ha (k := 21) rfl
      have f41 := zf hS_s2 ha (k := 22) rfl
      have f42 := zf hS_s2 ha (k := 23) rfl
      have f43 := zf hS_s2 ha (k := 24) rfl
      have f44 := zf hS_s2 ha (k := 38) rfl
      have f45 := zf hS_s2 ha (k := 51) rfl
      have f46 := zf hS_s2 ha (k := 52) rfl
      exact j_iret hx hq rfl (by decide) (by decide) dX12_readKind_87 ⟨v16 - 97, rfl, rfl, hS_s2, (zFr_t (zFr_t zFr_rf hF_s1 (by decide)) hF_s2 (by decide)), ⟨(by omega), by omega, by omega, by omega, by omega, by omega, by omega, by omega, by omega, by omega, by omega, by omega, by omega, by omega, by omega⟩⟩
    · skip
      refine j_aload_n hx 1 dX12_readKind_21 rfl ?_
      have f47 := zf hS_s1 ha (k := 4) rfl
      refine g13_4 hx hG ha kf_RX12_143 rfl dX12_readKind_22 ?_
      refine j_iconst hx dX12_readKind_25 ?_
      refine j_iadd hx (r := (s1 a 4) + 1) dX12_readKind_26 (by omega) ?_
      refine j_aload_n hx 1 dX12_readKind_27 rfl ?_
      have f48 := zf hS_s1 ha (k := 3) rfl
      refine g13_3 hx hG ha kf_RX12_146 rfl dX12_readKind_28 ?_
      refine j_icmp_ge hx 51 dX12_readKind_31 rfl (by omega) (by omega) (fun h49 => ?_) (fun h49 => ?_)
      · skip
        refine j_iconst hx dX12_readKind_51 ?_
        refine j_goto hx 56 dX12_readKind_52 rfl ?_
        refine j_istore_n hx [(2, .int (zI 1)), (1, .int (zI v16)), (0, .ref a)] dX12_readKind_56 (by decide) rfl ?_
        refine j_iload_n hx 0 dX12_readKind_57 rfl ?_
        refine j_if_ne hx 73 dX12_readKind_58 rfl ⟨by decide, by decide⟩ (fun h50 => ?_) (fun h50 => absurd h50 (by omega))
        refine j_aload_n hx 2 dX12_readKind_73 rfl ?_
        refine j_dup hx dX12_readKind_74 rfl ?_
        refine g13_4 hx hG ha kf_RX12_143 rfl dX12_readKind_75 ?_
        refine j_iconst hx dX12_readKind_78 ?_
        refine j_iadd hx (r := (s1 a 4) + 1) dX12_readKind_79 (by omega) ?_
        refine p13_4 hx hG ha kf_RX12_143 dX12_readKind_80 ?_
        obtain ⟨s3, e_s3⟩ : ∃ z, z = zU s1 a 4 ((s1 a 4) + 1) := ⟨_, rfl⟩
        rw [← e_s3]
        have hS_s3 : zSK G s3 := by rw [e_s3]; exact zSK_F hS_s1 ha rfl rfl rfl (by omega)
        refine j_iload_n hx 1 dX12_readKind_83 rfl ?_
        refine j_bipush hx dX12_readKind_84 rfl ?_
        refine j_isub hx (r := v16 - 97) dX12_readKind_86 rfl ?_
        have g51 : s3 a 4 = (s1 a 4) + 1 := (by rw [e_s3, zU_eq])
        have g52 : s3 a 5 = s1 a 5 := (by rw [e_s3, zU_at (Or.inr (by decide))])
        have f53 := zf hS_s1 ha (k := 5) rfl
        have g54 : s3 a 0 = s1 a 0 := (by rw [e_s3, zU_at (Or.inr (by decide))])
        have f55 := zf hS_s1 ha (k := 0) rfl
        have g56 : s3 a 3 = s1 a 3 := (by rw [e_s3, zU_at (Or.inr (by decide))])
        have g57 : s3 a 7 = s1 a 7 := (by rw [e_s3, zU_at (Or.inr (by decide))])
        have f58 := zf hS_s1 ha (k := 7) rfl
        have g59 : s3 a 21 = s1 a 21 := (by rw [e_s3, zU_at (Or.inr (by decide))])
        have f60 := zf hS_s1 ha (k := 21) rfl
        have g61 : s3 a 22 = s1 a 22 := (by rw [e_s3, zU_at (Or.inr (by decide))])
        have f62 := zf hS_s1 ha (k := 22) rfl
        have g63 : s3 a 23 = s1 a 23 := (by rw [e_s3, zU_at (Or.inr (by decide))])
        have f64 := zf hS_s1 ha (k := 23) rfl
        have g65 : s3 a 24 = s1 a 24 := (by rw [e_s3, zU_at (Or.inr (by decide))])
        have f66 := zf hS_s1 ha (k := 24) rfl
        have g67 : s3 a 38 = s1 a 38 := (by rw [e_s3, zU_at (Or.inr (by decide))])
        have f68 := zf hS_s1 ha (k := 38) rfl
        have g69 : s3 a 51 = s1 a 51 := (by rw [e_s3, zU_at (Or.inr (by decide))])
        have f70 := zf hS_s1 ha (k := 51) rfl
        have g71 : s3 a 52 = s1 a 52 := (by rw [e_s3, zU_at (Or.inr (by decide))])
        have f72 := zf hS_s1 ha (k := 52) rfl
        exact j_iret hx hq rfl (by decide) (by decide) dX12_readKind_87 ⟨v16 - 97, rfl, rfl, hS_s3, (zFr_u (zFr_t zFr_rf hF_s1 (by decide)) e_s3 ha (by decide)), ⟨(by omega), by omega, by omega, by omega, by omega, by omega, by omega, by omega, by omega, by omega, by omega, by omega, by omega, by omega, by omega⟩⟩
      · skip
        refine j_aload_n hx 1 dX12_readKind_34 rfl ?_
        refine g13_9 hx hG ha kf_RX12_20 dX12_readKind_35 ?_
        refine j_aload_n hx 1 dX12_readKind_38 rfl ?_
        refine g13_4 hx hG ha kf_RX12_143 rfl dX12_readKind_39 ?_
        refine j_iconst hx dX12_readKind_42 ?_
        refine j_iadd hx (r := (s1 a 4) + 1) dX12_readKind_43 (by omega) ?_
        have f73 := zaI (j := ((s1 a 4) + 1).toNat) hS0 (zr (k := 9) (t2 := 72) hG ha rfl) rfl (zlen hG (zr (k := 9) (t2 := 72) hG ha rfl) (n := 600) rfl rfl) (show 0 ≤ (s1 a 4) + 1 by omega) (by omega) rfl
        refine j_iald hx hG (zr (k := 9) (t2 := 72) hG ha rfl) (by decide) rfl (zlen hG (zr (k := 9) (t2 := 72) hG ha rfl) (n := 600) rfl rfl) (by omega) (by omega) (j := ((s1 a 4) + 1).toNat) rfl (v := (s0 (gP G a 9) ((s1 a 4) + 1).toNat)) (by rw [(zFr_g hF_s1 (zr (k := 9) (t2 := 72) hG ha rfl) (by decide))]) dX12_readKind_44 ?_
        refine j_callS hx (c_X12_isSmall hst ((s0 (gP G a 9) ((s1 a 4) + 1).toNat))) lk_RX12_153 [.int (zI ((s0 (gP G a 9) ((s1 a 4) + 1).toNat)))] ⟨rfl, hG, hS_s1, (by omega)⟩ rfl rfl ⟨by decide, by decide⟩ ⟨by decide, by decide⟩ (k2 := 0) (n2 := 0) rfl rfl (Nat.le_of_ble_eq_true rfl) dX12_readKind_45 (kIP (fun v74 q75 => ?_))
        refine j_if_ne hx 55 dX12_readKind_48 rfl (by omega) (fun h76 => ?_) (fun h76 => ?_)
        · skip
          refine j_iconst hx dX12_readKind_55 ?_
          refine j_istore_n hx [(2, .int (zI 0)), (1, .int (zI v16)), (0, .ref a)] dX12_readKind_56 (by decide) rfl ?_
          refine j_iload_n hx 0 dX12_readKind_57 rfl ?_
          refine j_if_ne hx 73 dX12_readKind_58 rfl ⟨by decide, by decide⟩ (fun h77 => absurd h77 (by omega)) (fun h77 => ?_)
          refine j_aload_n hx 2 dX12_readKind_61 rfl ?_
          refine j_iconst hx dX12_readKind_62 ?_
          refine j_aload_n hx 2 dX12_readKind_63 rfl ?_
          refine g13_4 hx hG ha kf_RX12_143 rfl dX12_readKind_64 ?_
          have f78 := zf hS_s1 ha (k := 0) rfl
          have f79 := zf hS_s1 ha (k := 7) rfl
          have f80 := zf hS_s1 ha (k := 21) rfl
          have f81 := zf hS_s1 ha (k := 22) rfl
          have f82 := zf hS_s1 ha (k := 23) rfl
          have f83 := zf hS_s1 ha (k := 24) rfl
          have f84 := zf hS_s1 ha (k := 38) rfl
          have f85 := zf hS_s1 ha (k := 51) rfl
          have f86 := zf hS_s1 ha (k := 52) rfl
          refine j_callV hx hG (c_X12_wrong hst a 1 ((s1 a 4))) lk_RX12_173 ha (by decide) rfl rfl rfl rfl [.int (zI 1), .int (zI ((s1 a 4)))] ⟨rfl, hG, hS_s1, ha, (by omega), (by omega)⟩ rfl rfl ⟨by decide, by decide⟩ ⟨by decide, by decide⟩ (k2 := 0) (n2 := 0) rfl rfl (Nat.le_of_ble_eq_true rfl) dX12_readKind_67 (kVM (fun s4 hS_s4 hF_s4 q88 => ?_))
          refine j_goto hx 83 dX12_readKind_70 rfl ?_
          refine j_iload_n hx 1 dX12_readKind_83 rfl ?_
          refine j_bipush hx dX12_readKind_84 rfl ?_
          refine j_isub hx (r := v16 - 97) dX12_readKind_86 rfl ?_
          have f89 := zf hS_s4 ha (k := 4) rfl
          have f90 := zf hS_s4 ha (k := 5) rfl
          have f91 := zf hS_s4 ha (k := 0) rfl
          have f92 := zf hS_s4 ha (k := 3) rfl
          have f93 := zf hS_s4 ha (k := 7) rfl
          have f94 := zf hS_s4 ha (k := 21) rfl
          have f95 := zf hS_s4 ha (k := 22) rfl
          have f96 := zf hS_s4 ha (k := 23) rfl
          have f97 := zf hS_s4 ha (k := 24) rfl
          have f98 := zf hS_s4 ha (k := 38) rfl
          have f99 := zf hS_s4 ha (k := 51) rfl
          have f100 := zf hS_s4 ha (k := 52) rfl
          exact j_iret hx hq rfl (by decide) (by decide) dX12_readKind_87 ⟨v16 - 97, rfl, rfl, hS_s4, (zFr_t (zFr_t zFr_rf hF_s1 (by decide)) hF_s4 (by decide)), ⟨(by omega), by omega, by omega, by omega, by omega, by omega, by omega, by omega, by omega, by omega, by omega, by omega, by omega, by omega, by omega⟩⟩
        · skip
          refine j_iconst hx dX12_readKind_51 ?_
          refine j_goto hx 56 dX12_readKind_52 rfl ?_
          refine j_istore_n hx [(2, .int (zI 1)), (1, .int (zI v16)), (0, .ref a)] dX12_readKind_56 (by decide) rfl ?_
          refine j_iload_n hx 0 dX12_readKind_57 rfl ?_
          refine j_if_ne hx 73 dX12_readKind_58 rfl ⟨by decide, by decide⟩ (fun h101 => ?_) (fun h101 => absurd h101 (by omega))
          refine j_aload_n hx 2 dX12_readKind_73 rfl ?_
          refine j_dup hx dX12_readKind_74 rfl ?_
          refine g13_4 hx hG ha kf_RX12_143 rfl dX12_readKind_75 ?_
          refine j_iconst hx dX12_readKind_78 ?_
          refine j_iadd hx (r := (s1 a 4) + 1) dX12_readKind_79 (by omega) ?_
          refine p13_4 hx hG ha kf_RX12_143 dX12_readKind_80 ?_
          obtain ⟨s5, e_s5⟩ : ∃ z, z = zU s1 a 4 ((s1 a 4) + 1) := ⟨_, rfl⟩
          rw [← e_s5]
          have hS_s5 : zSK G s5 := by rw [e_s5]; exact zSK_F hS_s1 ha rfl rfl rfl (by omega)
          refine j_iload_n hx 1 dX12_readKind_83 rfl ?_
          refine j_bipush hx dX12_readKind_84 rfl ?_
          refine j_isub hx (r := v16 - 97) dX12_readKind_86 rfl ?_
          have g102 : s5 a 4 = (s1 a 4) + 1 := (by rw [e_s5, zU_eq])
          have g103 : s5 a 5 = s1 a 5 := (by rw [e_s5, zU_at (Or.inr (by decide))])
          have f104 := zf hS_s1 ha (k := 5) rfl
          have g105 : s5 a 0 = s1 a 0 := (by rw [e_s5, zU_at (Or.inr (by decide))])
          have f106 := zf hS_s1 ha (k := 0) rfl
          have g107 : s5 a 3 = s1 a 3 := (by rw [e_s5, zU_at (Or.inr (by decide))])
          have g108 : s5 a 7 = s1 a 7 := (by rw [e_s5, zU_at (Or.inr (by decide))])
          have f109 := zf hS_s1 ha (k := 7) rfl
          have g110 : s5 a 21 = s1 a 21 := (by rw [e_s5, zU_at (Or.inr (by decide))])
          have f111 := zf hS_s1 ha (k := 21) rfl
          have g112 : s5 a 22 = s1 a 22 := (by rw [e_s5, zU_at (Or.inr (by decide))])
          have f113 := zf hS_s1 ha (k := 22) rfl
          have g114 : s5 a 23 = s1 a 23 := (by rw [e_s5, zU_at (Or.inr (by decide))])
          have f115 := zf hS_s1 ha (k := 23) rfl
          have g116 : s5 a 24 = s1 a 24 := (by rw [e_s5, zU_at (Or.inr (by decide))])
          have f117 := zf hS_s1 ha (k := 24) rfl
          have g118 : s5 a 38 = s1 a 38 := (by rw [e_s5, zU_at (Or.inr (by decide))])
          have f119 := zf hS_s1 ha (k := 38) rfl
          have g120 : s5 a 51 = s1 a 51 := (by rw [e_s5, zU_at (Or.inr (by decide))])
          have f121 := zf hS_s1 ha (k := 51) rfl
          have g122 : s5 a 52 = s1 a 52 := (by rw [e_s5, zU_at (Or.inr (by decide))])
          have f123 := zf hS_s1 ha (k := 52) rfl
          exact j_iret hx hq rfl (by decide) (by decide) dX12_readKind_87 ⟨v16 - 97, rfl, rfl, hS_s5, (zFr_u (zFr_t zFr_rf hF_s1 (by decide)) e_s5 ha (by decide)), ⟨(by omega), by omega, by omega, by omega, by omega, by omega, by omega, by omega, by omega, by omega, by omega, by omega, by omega, by omega, by omega⟩⟩
  · skip
    refine j_iconst hx dX12_readKind_7 ?_
    have f124 := zf hS0 ha (k := 4) rfl
    have f125 := zf hS0 ha (k := 5) rfl
    have f126 := zf hS0 ha (k := 3) rfl
    have f127 := zf hS0 ha (k := 0) rfl
    have f128 := zf hS0 ha (k := 7) rfl
    have f129 := zf hS0 ha (k := 21) rfl
    have f130 := zf hS0 ha (k := 22) rfl
    have f131 := zf hS0 ha (k := 23) rfl
    have f132 := zf hS0 ha (k := 24) rfl
    have f133 := zf hS0 ha (k := 38) rfl
    have f134 := zf hS0 ha (k := 51) rfl
    have f135 := zf hS0 ha (k := 52) rfl
    exact j_iret hx hq rfl (by decide) (by decide) dX12_readKind_8 ⟨0, rfl, rfl, hS0, zFr_rf, ⟨(by omega), by omega, by omega, by omega, by omega, by omega, by omega, by omega, by omega, by omega, by omega, by omega, by omega, by omega, by omega⟩⟩
