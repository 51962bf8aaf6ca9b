set_option maxHeartbeats 1200000 in
set_option maxRecDepth 20000 in
theorem c_X12_take {E : zE} {l : Launch} (hst : l.stackTraces = false) (a : Nat) (x1 : Int) (x2 : Int) (x3 : Int) (x4 : Int) : Con E l yX12_take cX12_take 6 none { frames := 0, cells := 0, slots := 0, locals := 0 } (fun G s vs => vs = [.ref a, .int (zI x1), .int (zI x2), .int (zI x3), .int (zI x4)] ∧ zGK G ∧ zSK G s ∧ (gT G a = 13) ∧ (180 ≤ x1 ∧ x1 ≤ 360) ∧ (483 ≤ x2 ∧ x2 ≤ 486) ∧ (0 ≤ x3 ∧ x3 ≤ 360) ∧ (480 ≤ x4 ∧ x4 ≤ 486) ∧ (x2 ≠ x4) ∧ (zc (s (gP G a 27)) ≤ 60)) (fun G s _ => pV (fun G2 s2 => G2 = G ∧ zSK G s2 ∧ zFr [84] G s s2 ∧ zc (s2 (gP G a 27)) = zc (s (gP G a 27)) ∧ s2 (gP G a 27) (x2).toNat = s (gP G a 27) (x2).toNat ∧ s2 (gP G a 27) (x4).toNat = s (gP G a 27) (x4).toNat ∧ s2 (gP G a 27) 488 = s (gP G a 27) 488)) := by
  refine Con.mk hst (by decide) (fun G s vs h => by rw [h.1]; exact Nat.le_of_ble_eq_true rfl) ?_
  rintro X G s0 vs ⟨rfl, hG, hS0, ha, hx1, hx2, hx3, hx4, e0, e1⟩ rfl hx hq
  show JJ X E 6 G s0 0 0 [(0, .ref a), (1, .int (zI x1)), (2, .int (zI x2)), (3, .int (zI x3)), (4, .int (zI x4))] 0 []
  refine j_iconst hx dX12_take_0 ?_
  refine j_istore hx [(5, .int (zI 0)), (0, .ref a), (1, .int (zI x1)), (2, .int (zI x2)), (3, .int (zI x3)), (4, .int (zI x4))] dX12_take_1 (by decide) rfl ?_
  have c3_1 : ∀ (m_c3_1 : Nat) (v1 : Int) (s2 : zS), 2147483648 - v1 < m_c3_1 → (0 ≤ v1 ∧ v1 ≤ 60) → (zSK G s2) → (zFr [84] G s0 s2) → (zc (s2 (gP G a 27)) = zc (s0 (gP G a 27))) → (s2 (gP G a 27) (x2).toNat = s0 (gP G a 27) (x2).toNat) → (s2 (gP G a 27) (x4).toNat = s0 (gP G a 27) (x4).toNat) → (s2 (gP G a 27) 488 = s0 (gP G a 27) 488) → JJ X E 6 G s2 0 0 [(0, .ref a), (1, .int (zI x1)), (2, .int (zI x2)), (3, .int (zI x3)), (4, .int (zI x4)), (5, .int (zI v1))] 3 [] := by
    intro m_c3_1
    induction m_c3_1 with
    | zero => intro v1 s2 hm_c3_1 fA3 hS_s2 hF_s2 fA6 fA7 fA8 fA9; exfalso; omega
    | succ m_c3_1 ih_c3_1 => 
      intro v1 s2 hm_c3_1 fA3 hS_s2 hF_s2 fA6 fA7 fA8 fA9
      refine j_iload hx 5 dX12_take_3 rfl ?_
      refine j_aload_n hx 0 dX12_take_5 rfl ?_
      refine g13_27 hx hG ha kf_RX12_56 dX12_take_6 ?_
      refine j_iload_n hx 2 dX12_take_9 rfl ?_
      have f2 := zaQ (j := (x2).toNat) hS_s2 (zr (k := 27) (t2 := 84) hG ha rfl) (congrArg some (axS_2 (x2).toNat (by omega))) (zlen hG (zr (k := 27) (t2 := 84) hG ha rfl) (n := 515) rfl rfl) (show 0 ≤ x2 by omega) (by omega) rfl
      have c3 := zc_1 (j := (x2).toNat) hS_s2 (zr (k := 27) (t2 := 84) hG ha rfl) (zn hG (zr (k := 27) (t2 := 84) hG ha rfl) rfl) (by omega) (by omega)
      refine j_iald hx hG (zr (k := 27) (t2 := 84) hG ha rfl) (by decide) rfl (zlen hG (zr (k := 27) (t2 := 84) hG ha rfl) (n := 515) rfl rfl) (by omega) (by omega) (j := (x2).toNat) rfl rfl dX12_take_10 ?_
      refine j_icmp_ge hx 46 dX12_take_11 rfl (by omega) (by omega) (fun h4 => ?_) (fun h4 => ?_)
      · skip
        exact j_vret hx hq rfl (by decide) (by decide) dX12_take_46 ⟨rfl, rfl, hS_s2, (zFr_t zFr_rf hF_s2 (by decide)), ⟨by omega, by omega, by omega, by omega⟩⟩
      · skip
        refine j_aload_n hx 0 dX12_take_14 rfl ?_
        refine g13_27 hx hG ha kf_RX12_56 dX12_take_15 ?_
        refine j_iload_n hx 3 dX12_take_18 rfl ?_
        refine j_aload_n hx 0 dX12_take_19 rfl ?_
        refine g13_27 hx hG ha kf_RX12_56 dX12_take_20 ?_
        refine j_iload hx 4 dX12_take_23 rfl ?_
        have f5 := zaQ (j := (x4).toNat) hS_s2 (zr (k := 27) (t2 := 84) hG ha rfl) (congrArg some (axS_2 (x4).toNat (by omega))) (zlen hG (zr (k := 27) (t2 := 84) hG ha rfl) (n := 515) rfl rfl) (show 0 ≤ x4 by omega) (by omega) rfl
        have c6 := zc_1 (j := (x4).toNat) hS_s2 (zr (k := 27) (t2 := 84) hG ha rfl) (zn hG (zr (k := 27) (t2 := 84) hG ha rfl) rfl) (by omega) (by omega)
        have c7 : (x2).toNat ≠ (x4).toNat → s2 (gP G a 27) (x2).toNat + s2 (gP G a 27) (x4).toNat ≤ zc (s2 (gP G a 27)) := fun e => zc_2 hS_s2 (zr (k := 27) (t2 := 84) hG ha rfl) (zn hG (zr (k := 27) (t2 := 84) hG ha rfl) rfl) (by omega) (by omega) (by omega) (by omega) e
        refine j_iald hx hG (zr (k := 27) (t2 := 84) hG ha rfl) (by decide) rfl (zlen hG (zr (k := 27) (t2 := 84) hG ha rfl) (n := 515) rfl rfl) (by omega) (by omega) (j := (x4).toNat) rfl rfl dX12_take_25 ?_
        refine j_iadd hx (r := x3 + (s2 (gP G a 27) (x4).toNat)) dX12_take_26 (by omega) ?_
        refine j_iload hx 5 dX12_take_27 rfl ?_
        refine j_iadd hx (r := x3 + (s2 (gP G a 27) (x4).toNat) + v1) dX12_take_29 (by omega) ?_
        refine j_aload_n hx 0 dX12_take_30 rfl ?_
        refine g13_27 hx hG ha kf_RX12_56 dX12_take_31 ?_
        refine j_iload_n hx 1 dX12_take_34 rfl ?_
        refine j_iload hx 5 dX12_take_35 rfl ?_
        refine j_iadd hx (r := x1 + v1) dX12_take_37 rfl ?_
        have f8 := zaQ (j := (x1 + v1).toNat) hS_s2 (zr (k := 27) (t2 := 84) hG ha rfl) (congrArg some (axS_0 (x1 + v1).toNat (by omega))) (zlen hG (zr (k := 27) (t2 := 84) hG ha rfl) (n := 515) rfl rfl) (show 0 ≤ x1 + v1 by omega) (by omega) rfl
        refine j_iald hx hG (zr (k := 27) (t2 := 84) hG ha rfl) (by decide) rfl (zlen hG (zr (k := 27) (t2 := 84) hG ha rfl) (n := 515) rfl rfl) (by omega) (by omega) (j := (x1 + v1).toNat) rfl rfl dX12_take_38 ?_
        refine j_iast hx hG (zr (k := 27) (t2 := 84) hG ha rfl) (by decide) rfl (zlen hG (zr (k := 27) (t2 := 84) hG ha rfl) (n := 515) rfl rfl) (by omega) (by omega) (j := (x3 + (s2 (gP G a 27) (x4).toNat) + v1).toNat) rfl dX12_take_39 ?_
        obtain ⟨s10, e_s10⟩ : ∃ z, z = zU s2 (gP G a 27) (x3 + (s2 (gP G a 27) (x4).toNat) + v1).toNat ((s2 (gP G a 27) (x1 + v1).toNat)) := ⟨_, rfl⟩
        rw [← e_s10]
        have hS_s10 : zSK G s10 := by rw [e_s10]; exact zSK_a hS_s2 (zr (k := 27) (t2 := 84) hG ha rfl) rfl rfl (congrArg some (axS_0 (x3 + (s2 (gP G a 27) (x4).toNat) + v1).toNat (by omega))) (by omega)
        have z9 : zc (s10 (gP G a 27)) = zc (s2 (gP G a 27)) := by rw [e_s10]; exact zc_o (by omega)
        refine j_iinc hx 5 [(5, .int (zI (v1 + 1))), (0, .ref a), (1, .int (zI x1)), (2, .int (zI x2)), (3, .int (zI x3)), (4, .int (zI x4))] dX12_take_40 rfl (by omega) (by decide) rfl ?_
        refine j_goto hx 3 dX12_take_43 rfl ?_
        have g10 : s10 (gP G a 27) (x2).toNat = s2 (gP G a 27) (x2).toNat := (by rw [e_s10, zU_at (Or.inr (by omega))])
        have g11 : s10 (gP G a 27) (x4).toNat = s2 (gP G a 27) (x4).toNat := (by rw [e_s10, zU_at (Or.inr (by omega))])
        have g12 : s10 (gP G a 27) 488 = s2 (gP G a 27) 488 := (by rw [e_s10, zU_at (Or.inr (by omega))])
        exact j_sub [1, 2, 3, 4, 5, 0] [(0, .ref a), (1, .int (zI x1)), (2, .int (zI x2)), (3, .int (zI x3)), (4, .int (zI x4)), (5, .int (zI (v1 + 1)))] rfl (ih_c3_1 (v1 + 1) s10 (by omega) (by omega) hS_s10 (zFr_u (zFr_t zFr_rf hF_s2 (by decide)) e_s10 (zr (k := 27) (t2 := 84) hG ha rfl) (by decide)) (by omega) (by omega) (by omega) (by omega))
  exact j_sub [1, 2, 3, 4, 5, 0] [(0, .ref a), (1, .int (zI x1)), (2, .int (zI x2)), (3, .int (zI x3)), (4, .int (zI x4)), (5, .int (zI 0))] rfl (c3_1 (2147483648 * 4) 0 s0 (by omega) (by omega) hS0 zFr_rf (by omega) (by omega) (by omega) (by omega))

theorem lk_RX12_361 : LkV RX12 361 RX12 yX12_take cX12_take 6 none 4 := ⟨km_RX12_361, ki_yX12_take, ks_RX12_yX12_take, kn_RX12, kc_yX12_take, rfl, by decide +kernel, by decide +kernel, by decide +kernel⟩
set_option maxHeartbeats 1200000 in
set_option maxRecDepth 20000 in
theorem c_X12_comes {E : zE} {l : Launch} (hst : l.stackTraces = false) (a : Nat) (x1 : Int) (x2 : Int) (x3 : Int) : Con E l yX12_comes cX12_comes 4 none { frames := 1, cells := 0, slots := 0, locals := 25 } (fun G s vs => vs = [.ref a, .int (zI x1), .int (zI x2), .int (zI x3)] ∧ zGK G ∧ zSK G s ∧ (gT G a = 13) ∧ (0 ≤ x1 ∧ x1 ≤ 2) ∧ (0 ≤ x2 ∧ x2 ≤ 360) ∧ (480 ≤ x3 ∧ x3 ≤ 486) ∧ (x3 ≠ x1 + 483) ∧ (zc (s (gP G a 27)) ≤ 60)) (fun G s _ => pV (fun G2 s2 => G2 = G ∧ zSK G s2 ∧ zFr [84] G s s2 ∧ zc (s2 (gP G a 27)) = zc (s (gP G a 27)) ∧ s2 (gP G a 27) (x1 + 483).toNat = 0 ∧ s2 (gP G a 27) (x3).toNat = s (gP G a 27) (x3).toNat + s (gP G a 27) (x1 + 483).toNat ∧ s2 (gP G a 27) 488 = s (gP G a 27) 488)) := by
  refine Con.mk hst (by decide) (fun G s vs h => by rw [h.1]; exact Nat.le_of_ble_eq_true rfl) ?_
  rintro X G s0 vs ⟨rfl, hG, hS0, ha, hx1, hx2, hx3, e0, e1⟩ rfl hx hq
  show JJ X E 4 G s0 0 0 [(0, .ref a), (1, .int (zI x1)), (2, .int (zI x2)), (3, .int (zI x3))] 0 []
  refine j_aload_n hx 0 dX12_comes_0 rfl ?_
  refine j_sipush hx dX12_comes_1 rfl ?_
  refine j_bipush hx dX12_comes_4 rfl ?_
  refine j_iload_n hx 1 dX12_comes_6 rfl ?_
  refine j_imul hx (r := 60 * x1) dX12_comes_7 rfl ?_
  refine j_iadd hx (r := 60 * x1 + 180) dX12_comes_8 (by omega) ?_
  refine j_sipush hx dX12_comes_9 rfl ?_
  refine j_iload_n hx 1 dX12_comes_12 rfl ?_
  refine j_iadd hx (r := x1 + 483) dX12_comes_13 (by omega) ?_
  refine j_iload_n hx 2 dX12_comes_14 rfl ?_
  refine j_iload_n hx 3 dX12_comes_15 rfl ?_
  refine j_callV hx hG (c_X12_take hst a (60 * x1 + 180) (x1 + 483) x2 x3) lk_RX12_361 ha (by decide) rfl rfl rfl rfl [.int (zI (60 * x1 + 180)), .int (zI (x1 + 483)), .int (zI x2), .int (zI x3)] ⟨rfl, hG, hS0, ha, (by omega), (by omega), (by omega), (by omega), (by omega), (by omega)⟩ rfl rfl ⟨by decide, by decide⟩ ⟨by decide, by decide⟩ (k2 := 0) (n2 := 0) rfl rfl (Nat.le_of_ble_eq_true rfl) dX12_comes_16 (kVM (fun s1 hS_s1 hF_s1 q2 => ?_))
  refine j_aload_n hx 0 dX12_comes_19 rfl ?_
  refine g13_27 hx hG ha kf_RX12_56 dX12_comes_20 ?_
  refine j_iload_n hx 3 dX12_comes_23 rfl ?_
  refine j_dup2 hx dX12_comes_24 rfl rfl ?_
  have f3 := zaQ (j := (x3).toNat) hS_s1 (zr (k := 27) (t2 := 84) hG ha rfl) (congrArg some (axS_2 (x3).toNat (by omega))) (zlen hG (zr (k := 27) (t2 := 84) hG ha rfl) (n := 515) rfl rfl) (show 0 ≤ x3 by omega) (by omega) rfl
  have c4 := zc_1 (j := (x3).toNat) hS_s1 (zr (k := 27) (t2 := 84) hG ha rfl) (zn hG (zr (k := 27) (t2 := 84) hG ha rfl) rfl) (by omega) (by omega)
  refine j_iald hx hG (zr (k := 27) (t2 := 84) hG ha rfl) (by decide) rfl (zlen hG (zr (k := 27) (t2 := 84) hG ha rfl) (n := 515) rfl rfl) (by omega) (by omega) (j := (x3).toNat) rfl rfl dX12_comes_25 ?_
  refine j_aload_n hx 0 dX12_comes_26 rfl ?_
  refine g13_27 hx hG ha kf_RX12_56 dX12_comes_27 ?_
  refine j_sipush hx dX12_comes_30 rfl ?_
  refine j_iload_n hx 1 dX12_comes_33 rfl ?_
  refine j_iadd hx (r := x1 + 483) dX12_comes_34 (by omega) ?_
  have f5 := zaQ (j := (x1 + 483).toNat) hS_s1 (zr (k := 27) (t2 := 84) hG ha rfl) (congrArg some (axS_2 (x1 + 483).toNat (by omega))) (zlen hG (zr (k := 27) (t2 := 84) hG ha rfl) (n := 515) rfl rfl) (show 0 ≤ x1 + 483 by omega) (by omega) rfl
  have c6 := zc_1 (j := (x1 + 483).toNat) hS_s1 (zr (k := 27) (t2 := 84) hG ha rfl) (zn hG (zr (k := 27) (t2 := 84) hG ha rfl) rfl) (by omega) (by omega)
  have c7 : (x3).toNat ≠ (x1 + 483).toNat → s1 (gP G a 27) (x3).toNat + s1 (gP G a 27) (x1 + 483).toNat ≤ zc (s1 (gP G a 27)) := fun e => zc_2 hS_s1 (zr (k := 27) (t2 := 84) hG ha rfl) (zn hG (zr (k := 27) (t2 := 84) hG ha rfl) rfl) (by omega) (by omega) (by omega) (by omega) e
  refine j_iald hx hG (zr (k := 27) (t2 := 84) hG ha rfl) (by decide) rfl (zlen hG (zr (k := 27) (t2 := 84) hG ha rfl) (n := 515) rfl rfl) (by omega) (by omega) (j := (x1 + 483).toNat) rfl rfl dX12_comes_35 ?_
  refine j_iadd hx (r := (s1 (gP G a 27) (x3).toNat) + (s1 (gP G a 27) (x1 + 483).toNat)) dX12_comes_36 (by omega) ?_
  refine j_iast hx hG (zr (k := 27) (t2 := 84) hG ha rfl) (by decide) rfl (zlen hG (zr (k := 27) (t2 := 84) hG ha rfl) (n := 515) rfl rfl) (by omega) (by omega) (j := (x3).toNat) rfl dX12_comes_37 ?_
  obtain ⟨s2, e_s2⟩ : ∃ z, z = zU s1 (gP G a 27) (x3).toNat ((s1 (gP G a 27) (x3).toNat) + (s1 (gP G a 27) (x1 + 483).toNat)) := ⟨_, rfl⟩
  rw [← e_s2]
  have hS_s2 : zSK G s2 := by rw [e_s2]; exact zSK_a hS_s1 (zr (k := 27) (t2 := 84) hG ha rfl) rfl rfl (congrArg some (axS_2 (x3).toNat (by omega))) (by omega)
  have g9 : s2 (gP G a 27) (x3).toNat = (s1 (gP G a 27) (x3).toNat) + (s1 (gP G a 27) (x1 + 483).toNat) := (by rw [e_s2, zU_eq])
  have z8 : zc (s2 (gP G a 27)) = zc (s1 (gP G a 27)) - s1 (gP G a 27) (x3).toNat + s2 (gP G a 27) (x3).toNat := by rw [e_s2, zU_eq]; exact zc_w (by omega) (by omega)
  refine j_aload_n hx 0 dX12_comes_38 rfl ?_
  refine g13_27 hx hG ha kf_RX12_56 dX12_comes_39 ?_
  refine j_sipush hx dX12_comes_42 rfl ?_
  refine j_iload_n hx 1 dX12_comes_45 rfl ?_
  refine j_iadd hx (r := x1 + 483) dX12_comes_46 (by omega) ?_
  refine j_iconst hx dX12_comes_47 ?_
  refine j_iast hx hG (zr (k := 27) (t2 := 84) hG ha rfl) (by decide) rfl (zlen hG (zr (k := 27) (t2 := 84) hG ha rfl) (n := 515) rfl rfl) (by omega) (by omega) (j := (x1 + 483).toNat) rfl dX12_comes_48 ?_
  obtain ⟨s3, e_s3⟩ : ∃ z, z = zU s2 (gP G a 27) (x1 + 483).toNat 0 := ⟨_, rfl⟩
  rw [← e_s3]
  have hS_s3 : zSK G s3 := by rw [e_s3]; exact zSK_a hS_s2 (zr (k := 27) (t2 := 84) hG ha rfl) rfl rfl (congrArg some (axS_2 (x1 + 483).toNat (by omega))) (by omega)
  have g11 : s2 (gP G a 27) (x1 + 483).toNat = s1 (gP G a 27) (x1 + 483).toNat := (by rw [e_s2, zU_at (Or.inr (by omega))])
  have g12 : s3 (gP G a 27) (x1 + 483).toNat = 0 := (by rw [e_s3, zU_eq])
  have z10 : zc (s3 (gP G a 27)) = zc (s2 (gP G a 27)) - s2 (gP G a 27) (x1 + 483).toNat + s3 (gP G a 27) (x1 + 483).toNat := by rw [e_s3, zU_eq]; exact zc_w (by omega) (by omega)
  have g13 : s3 (gP G a 27) (x3).toNat = (s1 (gP G a 27) (x3).toNat) + (s1 (gP G a 27) (x1 + 483).toNat) := (by rw [e_s3, zU_at (Or.inr (by omega)), e_s2, zU_eq])
  have g14 : s3 (gP G a 27) 488 = s1 (gP G a 27) 488 := (by rw [e_s3, zU_at (Or.inr (by omega)), e_s2, zU_at (Or.inr (by omega))])
  exact j_vret hx hq rfl (by decide) (by decide) dX12_comes_49 ⟨rfl, rfl, hS_s3, (zFr_u (zFr_u (zFr_t zFr_rf hF_s1 (by decide)) e_s2 (zr (k := 27) (t2 := 84) hG ha rfl) (by decide)) e_s3 (zr (k := 27) (t2 := 84) hG ha rfl) (by decide)), ⟨by omega, by omega, by omega, by omega⟩⟩

theorem lk_RX12_365 : LkV RX12 365 RX12 yX12_comes cX12_comes 4 none 3 := ⟨km_RX12_365, ki_yX12_comes, ks_RX12_yX12_comes, kn_RX12, kc_yX12_comes, rfl, by decide +kernel, by decide +kernel, by decide +kernel⟩
set_option maxHeartbeats 1200000 in
set_option maxRecDepth 20000 in
theorem c_X12_comesToRow {E : zE} {l : Launch} (hst : l.stackTraces = false) (a : Nat) (x1 : Int) (x2 : Int) : Con E l yX12_comesToRow cX12_comesToRow 3 none { frames := 2, cells := 0, slots := 0, locals := 48 } (fun G s vs => vs = [.ref a, .int (zI x1), .int (zI x2)] ∧ zGK G ∧ zSK G s ∧ (gT G a = 13) ∧ (0 ≤ x1 ∧ x1 ≤ 2) ∧ (0 ≤ x2 ∧ x2 ≤ 2) ∧ (zc (s (gP G a 27)) ≤ 60)) (fun G s _ => pV (fun G2 s2 => G2 = G ∧ zSK G s2 ∧ zFr [84] G s s2 ∧ zc (s2 (gP G a 27)) = zc (s (gP G a 27)) ∧ s2 (gP G a 27) (x1 + 483).toNat = 0 ∧ s2 (gP G a 27) (x2 + 480).toNat = s (gP G a 27) (x2 + 480).toNat + s (gP G a 27) (x1 + 483).toNat ∧ s2 (gP G a 27) 488 = s (gP G a 27) 488)) := by
  refine Con.mk hst (by decide) (fun G s vs h => by rw [h.1]; exact Nat.le_of_ble_eq_true rfl) ?_
  rintro X G s0 vs ⟨rfl, hG, hS0, ha, hx1, hx2, e0⟩ rfl hx hq
  show JJ X E 3 G s0 0 0 [(0, .ref a), (1, .int (zI x1)), (2, .int (zI x2))] 0 []
  refine j_aload_n hx 0 dX12_comesToRow_0 rfl ?_
  refine j_iload_n hx 1 dX12_comesToRow_1 rfl ?_
  refine j_iconst hx dX12_comesToRow_2 ?_
  refine j_bipush hx dX12_comesToRow_3 rfl ?_
  refine j_iload_n hx 2 dX12_comesToRow_5 rfl ?_
  refine j_imul hx (r := 60 * x2) dX12_comesToRow_6 rfl ?_
  refine j_iadd hx (r := 60 * x2) dX12_comesToRow_7 (by omega) ?_
  refine j_sipush hx dX12_comesToRow_8 rfl ?_
  refine j_iload_n hx 2 dX12_comesToRow_11 rfl ?_
  refine j_iadd hx (r := x2 + 480) dX12_comesToRow_12 (by omega) ?_
  refine j_callV hx hG (c_X12_comes hst a x1 (60 * x2) (x2 + 480)) lk_RX12_365 ha (by decide) rfl rfl rfl rfl [.int (zI x1), .int (zI (60 * x2)), .int (zI (x2 + 480))] ⟨rfl, hG, hS0, ha, (by omega), (by omega), (by omega), (by omega), (by omega)⟩ rfl rfl ⟨by decide, by decide⟩ ⟨by decide, by decide⟩ (k2 := 0) (n2 := 0) rfl rfl (Nat.le_of_ble_eq_true rfl) dX12_comesToRow_13 (kVM (fun s1 hS_s1 hF_s1 q2 => ?_))
  exact j_vret hx hq rfl (by decide) (by decide) dX12_comesToRow_16 ⟨rfl, rfl, hS_s1, (zFr_t zFr_rf hF_s1 (by decide)), ⟨by omega, by omega, by omega, by omega⟩⟩

theorem lk_RX12_368 : LkV RX12 368 RX12 yX12_comesToRow cX12_comesToRow 3 none 2 := ⟨km_RX12_368, ki_yX12_comesToRow, ks_RX12_yX12_comesToRow, kn_RX12, kc_yX12_comesToRow, rfl, by decide +kernel, by decide +kernel, by decide +kernel⟩
set_option maxHeartbeats 1200000 in
set_option maxRecDepth 20000 in
theorem c_X12_turnsOver {E : zE} {l : Launch} (hst : l.stackTraces = false) (a : Nat) (x1 : Int) : Con E l yX12_turnsOver cX12_turnsOver 2 none { frames := 3, cells := 0, slots := 0, locals := 70 } (fun G s vs => vs = [.ref a, .int (zI x1)] ∧ zGK G ∧ zSK G s ∧ (gT G a = 13) ∧ (0 ≤ x1 ∧ x1 ≤ 2) ∧ (zc (s (gP G a 27)) ≤ 60)) (fun G s _ => pV (fun G2 s2 => G2 = G ∧ zSK G s2 ∧ zFr [84] G s s2 ∧ zc (s2 (gP G a 27)) = zc (s (gP G a 27)) ∧ (1 ≤ s (gP G a 27) (x1 + 480).toNat + s (gP G a 27) (x1 + 483).toNat → 1 ≤ s2 (gP G a 27) (x1 + 480).toNat) ∧ s2 (gP G a 27) 488 = s (gP G a 27) 488)) := by
  refine Con.mk hst (by decide) (fun G s vs h => by rw [h.1]; exact Nat.le_of_ble_eq_true rfl) ?_
  rintro X G s0 vs ⟨rfl, hG, hS0, ha, hx1, e0⟩ rfl hx hq
  show JJ X E 2 G s0 0 0 [(0, .ref a), (1, .int (zI x1))] 0 []
  refine j_aload_n hx 0 dX12_turnsOver_0 rfl ?_
  refine g13_27 hx hG ha kf_RX12_56 dX12_turnsOver_1 ?_
  refine j_sipush hx dX12_turnsOver_4 rfl ?_
  refine j_iload_n hx 1 dX12_turnsOver_7 rfl ?_
  refine j_iadd hx (r := x1 + 480) dX12_turnsOver_8 (by omega) ?_
  have f1 := zaQ (j := (x1 + 480).toNat) hS0 (zr (k := 27) (t2 := 84) hG ha rfl) (congrArg some (axS_2 (x1 + 480).toNat (by omega))) (zlen hG (zr (k := 27) (t2 := 84) hG ha rfl) (n := 515) rfl rfl) (show 0 ≤ x1 + 480 by omega) (by omega) rfl
  have c2 := zc_1 (j := (x1 + 480).toNat) hS0 (zr (k := 27) (t2 := 84) hG ha rfl) (zn hG (zr (k := 27) (t2 := 84) hG ha rfl) rfl) (by omega) (by omega)
  refine j_iald hx hG (zr (k := 27) (t2 := 84) hG ha rfl) (by decide) rfl (zlen hG (zr (k := 27) (t2 := 84) hG ha rfl) (n := 515) rfl rfl) (by omega) (by omega) (j := (x1 + 480).toNat) rfl rfl dX12_turnsOver_9 ?_
  refine j_if_ne hx 19 dX12_turnsOver_10 rfl (by omega) (fun h3 => ?_) (fun h3 => ?_)
  · skip
    exact j_vret hx hq rfl (by decide) (by decide) dX12_turnsOver_19 ⟨rfl, rfl, hS0, zFr_rf, ⟨by omega, by omega, by omega⟩⟩
  · skip
    refine j_aload_n hx 0 dX12_turnsOver_13 rfl ?_
    refine j_iload_n hx 1 dX12_turnsOver_14 rfl ?_
    refine j_iload_n hx 1 dX12_turnsOver_15 rfl ?_
    refine j_callV hx hG (c_X12_comesToRow hst a x1 x1) lk_RX12_368 ha (by decide) rfl rfl rfl rfl [.int (zI x1), .int (zI x1)] ⟨rfl, hG, hS0, ha, (by omega), (by omega), (by omega)⟩ rfl rfl ⟨by decide, by decide⟩ ⟨by decide, by decide⟩ (k2 := 0) (n2 := 0) rfl rfl (Nat.le_of_ble_eq_true rfl) dX12_turnsOver_16 (kVM (fun s1 hS_s1 hF_s1 q5 => ?_))
    exact j_vret hx hq rfl (by decide) (by decide) dX12_turnsOver_19 ⟨rfl, rfl, hS_s1, (zFr_t zFr_rf hF_s1 (by decide)), ⟨by omega, by omega, by omega⟩⟩

set_option maxHeartbeats 1200000 in
set_option maxRecDepth 20000 in
theorem c_X12_guesses {E : zE} {l : Launch} (hst : l.stackTraces = false) (a : Nat) (x1 : Int) : Con E l yX12_guesses cX12_guesses 3 none { frames := 4, cells := 0, slots := 0, locals := 96 } (fun G s vs => vs = [.ref a, .int (zI x1)] ∧ zGK G ∧ zSK G s ∧ (gT G a = 13) ∧ (0 ≤ x1 ∧ x1 ≤ 2) ∧ (zRva (s (gP G a 34)) (s (gP G a 35)) (s (gP G a 37)))) (fun G s _ => pV (fun G2 s2 => G2 = G ∧ zSK G s2 ∧ zFr [95, 98] G s s2 ∧ True)) := by
  refine Con.mk hst (by decide) (fun G s vs h => by rw [h.1]; exact Nat.le_of_ble_eq_true rfl) ?_
  rintro X G s0 vs ⟨rfl, hG, hS0, ha, hx1, e0⟩ rfl hx hq
  show JJ X E 3 G s0 0 0 [(0, .ref a), (1, .int (zI x1))] 0 []
  refine j_iconst hx dX12_guesses_0 ?_
  refine j_istore_n hx [(2, .int (zI 0)), (0, .ref a), (1, .int (zI x1))] dX12_guesses_1 (by decide) rfl ?_
  have c2_1 : ∀ (m_c2_1 : Nat) (v1 : Int) (s2 : zS), 2147483648 - v1 < m_c2_1 → (0 ≤ v1 ∧ v1 ≤ 3) → (zSK G s2) → (zFr [95, 98] G s0 s2) → JJ X E 3 G s2 0 0 [(0, .ref a), (1, .int (zI x1)), (2, .int (zI v1))] 2 [] := by
    intro m_c2_1
    induction m_c2_1 with
    | zero => intro v1 s2 hm_c2_1 fA3 hS_s2 hF_s2; exfalso; omega
    | succ m_c2_1 ih_c2_1 => 
      intro v1 s2 hm_c2_1 fA3 hS_s2 hF_s2
      refine j_iload_n hx 2 dX12_guesses_2 rfl ?_
      refine j_aload_n hx 0 dX12_guesses_3 rfl ?_
      have f2 := zf hS0 ha (k := 24) rfl
      refine g13_24 hx hG ha kf_RX12_189 (v := (s0 a 24)) (by rw [(zFr_g hF_s2 ha (by decide))]) dX12_guesses_4 ?_
      refine j_icmp_ge hx 48 dX12_guesses_7 rfl (by omega) (by omega) (fun h3 => ?_) (fun h3 => ?_)
      · skip
        exact j_vret hx hq rfl (by decide) (by decide) dX12_guesses_48 ⟨rfl, rfl, hS_s2, (zFr_t zFr_rf hF_s2 (by decide)), trivial⟩
      · skip
        refine j_aload_n hx 0 dX12_guesses_10 rfl ?_
        refine g13_45 hx hG ha kf_RX12_99 dX12_guesses_11 ?_
        refine j_iload_n hx 2 dX12_guesses_14 rfl ?_
        refine j_aload_n hx 0 dX12_guesses_15 rfl ?_
        refine j_iload_n hx 2 dX12_guesses_16 rfl ?_
        refine j_callV hx hG (c_X12_isOut hst a v1) lk_RX12_325 ha (by decide) rfl rfl rfl rfl [.int (zI v1)] ⟨rfl, hG, hS_s2, ha, (by omega)⟩ rfl rfl ⟨by decide, by decide⟩ ⟨by decide, by decide⟩ (k2 := 0) (n2 := 0) rfl rfl (Nat.le_of_ble_eq_true rfl) dX12_guesses_17 (kIP (fun v4 q5 => ?_))
        have c41_6 : ∀ (v6 : Int) (s7 : zS), ((-2) ≤ v6 ∧ v6 ≤ (-1)) → (zSK G s7) → (zFr [95] G s2 s7) → JJ X E 3 G s7 0 0 [(0, .ref a), (1, .int (zI x1)), (2, .int (zI v1))] 41 [.int (zI v6), .int (zI v1), .ref (gP G a 45)] := by
          intro v6 s7 fA8 hS_s7 hF_s7
          refine j_iast hx hG (zr (k := 45) (t2 := 98) hG ha rfl) (by decide) rfl (zlen hG (zr (k := 45) (t2 := 98) hG ha rfl) (n := 3) rfl rfl) (by omega) (by omega) (j := (v1).toNat) rfl dX12_guesses_41 ?_
          obtain ⟨s11, e_s11⟩ : ∃ z, z = zU s7 (gP G a 45) (v1).toNat v6 := ⟨_, rfl⟩
          rw [← e_s11]
          have hS_s11 : zSK G s11 := by rw [e_s11]; exact zSK_A hS_s7 (zr (k := 45) (t2 := 98) hG ha rfl) rfl rfl rfl (by omega)
          refine j_iinc hx 2 [(2, .int (zI (v1 + 1))), (0, .ref a), (1, .int (zI x1))] dX12_guesses_42 rfl (by omega) (by decide) rfl ?_
          refine j_goto hx 2 dX12_guesses_45 rfl ?_
          exact j_sub [1, 2, 0] [(0, .ref a), (1, .int (zI x1)), (2, .int (zI (v1 + 1)))] rfl (ih_c2_1 (v1 + 1) s11 (by omega) (by omega) hS_s11 (zFr_u (zFr_t (zFr_t zFr_rf hF_s2 (by decide)) hF_s7 (by decide)) e_s11 (zr (k := 45) (t2 := 98) hG ha rfl) (by decide)))
        have c39_12 : ∀ (s13 : zS), (zSK G s13) → (zFr [95] G s2 s13) → JJ X E 3 G s13 0 0 [(0, .ref a), (1, .int (zI x1)), (2, .int (zI v1))] 39 [.int (zI v1), .ref (gP G a 45)] := by
          intro s13 hS_s13 hF_s13
          refine j_bipush hx dX12_guesses_39 rfl ?_
          exact j_sub [0, 1, 2] [(0, .ref a), (1, .int (zI x1)), (2, .int (zI v1))] rfl (c41_6 (-2) s13 (by omega) hS_s13 (zFr_t zFr_rf hF_s13 (by decide)))
        refine j_if_ne hx 39 dX12_guesses_20 rfl (by omega) (fun h7 => ?_) (fun h7 => ?_)
        · skip
          exact j_sub [0, 1, 2] [(0, .ref a), (1, .int (zI x1)), (2, .int (zI v1))] rfl (c39_12 s2 hS_s2 zFr_rf)
        · skip
          refine j_aload_n hx 0 dX12_guesses_23 rfl ?_
          refine j_iconst hx dX12_guesses_24 ?_
          refine j_iload_n hx 2 dX12_guesses_25 rfl ?_
          refine j_iadd hx (r := v1 + 3) dX12_guesses_26 (by omega) ?_
          refine j_iload_n hx 2 dX12_guesses_27 rfl ?_
          refine j_iload_n hx 1 dX12_guesses_28 rfl ?_
          refine j_callV hx hG (c_X12_holds hst a (v1 + 3) v1 x1) lk_RX12_358 ha (by decide) rfl rfl rfl rfl [.int (zI (v1 + 3)), .int (zI v1), .int (zI x1)] ⟨rfl, hG, hS_s2, ha, (by omega), (by omega), (by omega), ((by have q1 : s2 (gP G a 34) = s0 (gP G a 34) := (by rw [hF_s2 (gP G a 34) (by rw [(zr (k := 34) (t2 := 91) hG ha rfl)]; decide)]); have q2 : s2 (gP G a 35) = s0 (gP G a 35) := (by rw [hF_s2 (gP G a 35) (by rw [(zr (k := 35) (t2 := 92) hG ha rfl)]; decide)]); have q3 : s2 (gP G a 37) = s0 (gP G a 37) := (by rw [hF_s2 (gP G a 37) (by rw [(zr (k := 37) (t2 := 94) hG ha rfl)]; decide)]); rw [q1, q2, q3]; exact e0))⟩ rfl rfl ⟨by decide, by decide⟩ ⟨by decide, by decide⟩ (k2 := 0) (n2 := 0) rfl rfl (Nat.le_of_ble_eq_true rfl) dX12_guesses_29 (kIM (fun v8 s16 hS_s16 hF_s16 q9 => ?_))
          refine j_if_eq hx 39 dX12_guesses_32 rfl (by omega) (fun h10 => ?_) (fun h10 => ?_)
          · skip
            exact j_sub [0, 1, 2] [(0, .ref a), (1, .int (zI x1)), (2, .int (zI v1))] rfl (c39_12 s16 hS_s16 (zFr_t zFr_rf hF_s16 (by decide)))
          · skip
            refine j_iconst hx dX12_guesses_35 ?_
            refine j_goto hx 41 dX12_guesses_36 rfl ?_
            exact j_sub [0, 1, 2] [(0, .ref a), (1, .int (zI x1)), (2, .int (zI v1))] rfl (c41_6 (-1) s16 (by omega) hS_s16 (zFr_t zFr_rf hF_s16 (by decide)))
  exact j_sub [1, 2, 0] [(0, .ref a), (1, .int (zI x1)), (2, .int (zI 0))] rfl (c2_1 (2147483648 * 4) 0 s0 (by omega) (by omega) hS0 zFr_rf)

set_option maxHeartbeats 1200000 in
set_option maxRecDepth 20000 in
theorem c_X12_takesFirst {E : zE} {l : Launch} (hst : l.stackTraces = false) (a : Nat) (x1 : Int) : Con E l yX12_takesFirst cX12_takesFirst 4 (some .int) { frames := 0, cells := 0, slots := 0, locals := 0 } (fun G s vs => vs = [.ref a, .int (zI x1)] ∧ zGK G ∧ zSK G s ∧ (gT G a = 13) ∧ (0 ≤ x1 ∧ x1 ≤ 2) ∧ (1 ≤ s (gP G a 27) (x1 + 480).toNat) ∧ (zc (s (gP G a 27)) ≤ 60)) (fun G s _ => pI (fun r G2 s2 => G2 = G ∧ zSK G s2 ∧ zFr [84] G s s2 ∧ (0 ≤ r ∧ r ≤ 59) ∧ zc (s2 (gP G a 27)) = zc (s (gP G a 27)) - 1 ∧ s2 (gP G a 27) (x1 + 480).toNat = s (gP G a 27) (x1 + 480).toNat - 1 ∧ s2 (gP G a 27) (x1 + 483).toNat = s (gP G a 27) (x1 + 483).toNat ∧ s2 (gP G a 27) 488 = s (gP G a 27) 488)) := by
  refine Con.mk hst (by decide) (fun G s vs h => by rw [h.1]; exact Nat.le_of_ble_eq_true rfl) ?_
  rintro X G s0 vs ⟨rfl, hG, hS0, ha, hx1, e0, e1⟩ rfl hx hq
  show JJ X E 4 G s0 0 0 [(0, .ref a), (1, .int (zI x1))] 0 []
  refine j_aload_n hx 0 dX12_takesFirst_0 rfl ?_
  refine g13_27 hx hG ha kf_RX12_56 dX12_takesFirst_1 ?_
  refine j_iconst hx dX12_takesFirst_4 ?_
  refine j_bipush hx dX12_takesFirst_5 rfl ?_
  refine j_iload_n hx 1 dX12_takesFirst_7 rfl ?_
  refine j_imul hx (r := 60 * x1) dX12_takesFirst_8 rfl ?_
  refine j_iadd hx (r := 60 * x1) dX12_takesFirst_9 (by omega) ?_
  have f1 := zaQ (j := (60 * x1).toNat) hS0 (zr (k := 27) (t2 := 84) hG ha rfl) (congrArg some (axS_0 (60 * x1).toNat (by omega))) (zlen hG (zr (k := 27) (t2 := 84) hG ha rfl) (n := 515) rfl rfl) (show 0 ≤ 60 * x1 by omega) (by omega) rfl
  refine j_iald hx hG (zr (k := 27) (t2 := 84) hG ha rfl) (by decide) rfl (zlen hG (zr (k := 27) (t2 := 84) hG ha rfl) (n := 515) rfl rfl) (by omega) (by omega) (j := (60 * x1).toNat) rfl rfl dX12_takesFirst_10 ?_
  refine j_istore_n hx [(2, .int (zI ((s0 (gP G a 27) (60 * x1).toNat)))), (0, .ref a), (1, .int (zI x1))] dX12_takesFirst_11 (by decide) rfl ?_
  refine j_aload_n hx 1 dX12_takesFirst_12 rfl ?_
  refine g13_27 hx hG ha kf_RX12_56 dX12_takesFirst_13 ?_
  refine j_sipush hx dX12_takesFirst_16 rfl ?_
  refine j_iload_n hx 2 dX12_takesFirst_19 rfl ?_
  refine j_iadd hx (r := x1 + 480) dX12_takesFirst_20 (by omega) ?_
  refine j_dup2 hx dX12_takesFirst_21 rfl rfl ?_
  have f2 := zaQ (j := (x1 + 480).toNat) hS0 (zr (k := 27) (t2 := 84) hG ha rfl) (congrArg some (axS_2 (x1 + 480).toNat (by omega))) (zlen hG (zr (k := 27) (t2 := 84) hG ha rfl) (n := 515) rfl rfl) (show 0 ≤ x1 + 480 by omega) (by omega) rfl
  have c3 := zc_1 (j := (x1 + 480).toNat) hS0 (zr (k := 27) (t2 := 84) hG ha rfl) (zn hG (zr (k := 27) (t2 := 84) hG ha rfl) rfl) (by omega) (by omega)
  refine j_iald hx hG (zr (k := 27) (t2 := 84) hG ha rfl) (by decide) rfl (zlen hG (zr (k := 27) (t2 := 84) hG ha rfl) (n := 515) rfl rfl) (by omega) (by omega) (j := (x1 + 480).toNat) rfl rfl dX12_takesFirst_22 ?_
  refine j_iconst hx dX12_takesFirst_23 ?_
  refine j_isub hx (r := (s0 (gP G a 27) (x1 + 480).toNat) - 1) dX12_takesFirst_24 (by omega) ?_
  refine j_iast hx hG (zr (k := 27) (t2 := 84) hG ha rfl) (by decide) rfl (zlen hG (zr (k := 27) (t2 := 84) hG ha rfl) (n := 515) rfl rfl) (by omega) (by omega) (j := (x1 + 480).toNat) rfl dX12_takesFirst_25 ?_
  obtain ⟨s1, e_s1⟩ : ∃ z, z = zU s0 (gP G a 27) (x1 + 480).toNat ((s0 (gP G a 27) (x1 + 480).toNat) - 1) := ⟨_, rfl⟩
  rw [← e_s1]
  have hS_s1 : zSK G s1 := by rw [e_s1]; exact zSK_a hS0 (zr (k := 27) (t2 := 84) hG ha rfl) rfl rfl (congrArg some (axS_2 (x1 + 480).toNat (by omega))) (by omega)
  have g5 : s1 (gP G a 27) (x1 + 480).toNat = (s0 (gP G a 27) (x1 + 480).toNat) - 1 := (by rw [e_s1, zU_eq])
  have z4 : zc (s1 (gP G a 27)) = zc (s0 (gP G a 27)) - s0 (gP G a 27) (x1 + 480).toNat + s1 (gP G a 27) (x1 + 480).toNat := by rw [e_s1, zU_eq]; exact zc_w (by omega) (by omega)
  refine j_iconst hx dX12_takesFirst_26 ?_
  refine j_istore_n hx [(3, .int (zI 0)), (2, .int (zI ((s0 (gP G a 27) (60 * x1).toNat)))), (0, .ref a), (1, .int (zI x1))] dX12_takesFirst_27 (by decide) rfl ?_
  have g7 : s1 (gP G a 27) (x1 + 483).toNat = s0 (gP G a 27) (x1 + 483).toNat := (by rw [e_s1, zU_at (Or.inr (by omega))])
  have g8 : s1 (gP G a 27) 488 = s0 (gP G a 27) 488 := (by rw [e_s1, zU_at (Or.inr (by omega))])
  have c28_2 : ∀ (m_c28_2 : Nat) (v6 : Int) (s3 : zS), 2147483648 - v6 < m_c28_2 → (0 ≤ v6 ∧ v6 ≤ 60) → (zSK G s3) → (zFr [84] G s1 s3) → (zc (s3 (gP G a 27)) = zc (s1 (gP G a 27))) → (s3 (gP G a 27) (x1 + 480).toNat = s1 (gP G a 27) (x1 + 480).toNat) → (s3 (gP G a 27) (x1 + 483).toNat = s1 (gP G a 27) (x1 + 483).toNat) → (s3 (gP G a 27) 488 = s1 (gP G a 27) 488) → JJ X E 4 G s3 0 0 [(0, .ref a), (1, .int (zI x1)), (2, .int (zI ((s0 (gP G a 27) (60 * x1).toNat)))), (3, .int (zI v6))] 28 [] := by
    intro m_c28_2
    induction m_c28_2 with
    | zero => intro v6 s3 hm_c28_2 fA4 hS_s3 hF_s3 fA7 fA8 fA9 fA10; exfalso; omega
    | succ m_c28_2 ih_c28_2 => 
      intro v6 s3 hm_c28_2 fA4 hS_s3 hF_s3 fA7 fA8 fA9 fA10
      refine j_iload_n hx 3 dX12_takesFirst_28 rfl ?_
      refine j_aload_n hx 0 dX12_takesFirst_29 rfl ?_
      refine g13_27 hx hG ha kf_RX12_56 dX12_takesFirst_30 ?_
      refine j_sipush hx dX12_takesFirst_33 rfl ?_
      refine j_iload_n hx 1 dX12_takesFirst_36 rfl ?_
      refine j_iadd hx (r := x1 + 480) dX12_takesFirst_37 (by omega) ?_
      have f9 := zaQ (j := (x1 + 480).toNat) hS_s3 (zr (k := 27) (t2 := 84) hG ha rfl) (congrArg some (axS_2 (x1 + 480).toNat (by omega))) (zlen hG (zr (k := 27) (t2 := 84) hG ha rfl) (n := 515) rfl rfl) (show 0 ≤ x1 + 480 by omega) (by omega) rfl
      have c10 := zc_1 (j := (x1 + 480).toNat) hS_s3 (zr (k := 27) (t2 := 84) hG ha rfl) (zn hG (zr (k := 27) (t2 := 84) hG ha rfl) rfl) (by omega) (by omega)
      refine j_iald hx hG (zr (k := 27) (t2 := 84) hG ha rfl) (by decide) rfl (zlen hG (zr (k := 27) (t2 := 84) hG ha rfl) (n := 515) rfl rfl) (by omega) (by omega) (j := (x1 + 480).toNat) rfl rfl dX12_takesFirst_38 ?_
      refine j_icmp_ge hx 76 dX12_takesFirst_39 rfl (by omega) (by omega) (fun h11 => ?_) (fun h11 => ?_)
      · skip
        refine j_iload_n hx 2 dX12_takesFirst_76 rfl ?_
        exact j_iret hx hq rfl (by decide) (by decide) dX12_takesFirst_77 ⟨(s0 (gP G a 27) (60 * x1).toNat), rfl, rfl, hS_s3, (zFr_t (zFr_u zFr_rf e_s1 (zr (k := 27) (t2 := 84) hG ha rfl) (by decide)) hF_s3 (by decide)), ⟨(by omega), by omega, by omega, by omega, by omega⟩⟩
      · skip
        refine j_aload_n hx 0 dX12_takesFirst_42 rfl ?_
        refine g13_27 hx hG ha kf_RX12_56 dX12_takesFirst_43 ?_
        refine j_iconst hx dX12_takesFirst_46 ?_
        refine j_bipush hx dX12_takesFirst_47 rfl ?_
        refine j_iload_n hx 1 dX12_takesFirst_49 rfl ?_
        refine j_imul hx (r := 60 * x1) dX12_takesFirst_50 rfl ?_
        refine j_iadd hx (r := 60 * x1) dX12_takesFirst_51 (by omega) ?_
        refine j_iload_n hx 3 dX12_takesFirst_52 rfl ?_
        refine j_iadd hx (r := 60 * x1 + v6) dX12_takesFirst_53 (by omega) ?_
        refine j_aload_n hx 0 dX12_takesFirst_54 rfl ?_
        refine g13_27 hx hG ha kf_RX12_56 dX12_takesFirst_55 ?_
        refine j_iconst hx dX12_takesFirst_58 ?_
        refine j_bipush hx dX12_takesFirst_59 rfl ?_
        refine j_iload_n hx 1 dX12_takesFirst_61 rfl ?_
        refine j_imul hx (r := 60 * x1) dX12_takesFirst_62 rfl ?_
        refine j_iadd hx (r := 60 * x1) dX12_takesFirst_63 (by omega) ?_
        refine j_iload_n hx 3 dX12_takesFirst_64 rfl ?_
        refine j_iadd hx (r := 60 * x1 + v6) dX12_takesFirst_65 (by omega) ?_
        refine j_iconst hx dX12_takesFirst_66 ?_
        refine j_iadd hx (r := 60 * x1 + v6 + 1) dX12_takesFirst_67 (by omega) ?_
        have f12 := zaQ (j := (60 * x1 + v6 + 1).toNat) hS_s3 (zr (k := 27) (t2 := 84) hG ha rfl) (congrArg some (axS_0 (60 * x1 + v6 + 1).toNat (by omega))) (zlen hG (zr (k := 27) (t2 := 84) hG ha rfl) (n := 515) rfl rfl) (show 0 ≤ 60 * x1 + v6 + 1 by omega) (by omega) rfl
        refine j_iald hx hG (zr (k := 27) (t2 := 84) hG ha rfl) (by decide) rfl (zlen hG (zr (k := 27) (t2 := 84) hG ha rfl) (n := 515) rfl rfl) (by omega) (by omega) (j := (60 * x1 + v6 + 1).toNat) rfl rfl dX12_takesFirst_68 ?_
        refine j_iast hx hG (zr (k := 27) (t2 := 84) hG ha rfl) (by decide) rfl (zlen hG (zr (k := 27) (t2 := 84) hG ha rfl) (n := 515) rfl rfl) (by omega) (by omega) (j := (60 * x1 + v6).toNat) rfl dX12_takesFirst_69 ?_
        obtain ⟨s11, e_s11⟩ : ∃ z, z = zU s3 (gP G a 27) (60 * x1 + v6).toNat ((s3 (gP G a 27) (60 * x1 + v6 + 1).toNat)) := ⟨_, rfl⟩
        rw [← e_s11]
        have hS_s11 : zSK G s11 := by rw [e_s11]; exact zSK_a hS_s3 (zr (k := 27) (t2 := 84) hG ha rfl) rfl rfl (congrArg some (axS_0 (60 * x1 + v6).toNat (by omega))) (by omega)
        have z13 : zc (s11 (gP G a 27)) = zc (s3 (gP G a 27)) := by rw [e_s11]; exact zc_o (by omega)
        refine j_iinc hx 3 [(3, .int (zI (v6 + 1))), (0, .ref a), (1, .int (zI x1)), (2, .int (zI ((s0 (gP G a 27) (60 * x1).toNat))))] dX12_takesFirst_70 rfl (by omega) (by decide) rfl ?_
        refine j_goto hx 28 dX12_takesFirst_73 rfl ?_
        have g14 : s11 (gP G a 27) (x1 + 480).toNat = s3 (gP G a 27) (x1 + 480).toNat := (by rw [e_s11, zU_at (Or.inr (by omega))])
        have g15 : s11 (gP G a 27) (x1 + 483).toNat = s3 (gP G a 27) (x1 + 483).toNat := (by rw [e_s11, zU_at (Or.inr (by omega))])
        have g16 : s11 (gP G a 27) 488 = s3 (gP G a 27) 488 := (by rw [e_s11, zU_at (Or.inr (by omega))])
        exact j_sub [1, 2, 3, 0] [(0, .ref a), (1, .int (zI x1)), (2, .int (zI ((s0 (gP G a 27) (60 * x1).toNat)))), (3, .int (zI (v6 + 1)))] rfl (ih_c28_2 (v6 + 1) s11 (by omega) (by omega) hS_s11 (zFr_u (zFr_t zFr_rf hF_s3 (by decide)) e_s11 (zr (k := 27) (t2 := 84) hG ha rfl) (by decide)) (by omega) (by omega) (by omega) (by omega))
  exact j_sub [2, 3, 1, 0] [(0, .ref a), (1, .int (zI x1)), (2, .int (zI ((s0 (gP G a 27) (60 * x1).toNat)))), (3, .int (zI 0))] rfl (c28_2 (2147483648 * 4) 0 s1 (by omega) (by omega) hS_s1 zFr_rf (by omega) (by omega) (by omega) (by omega))

theorem lk_RX12_371 : LkV RX12 371 RX12 yX12_takesFirst cX12_takesFirst 4 (some .int) 1 := ⟨km_RX12_371, ki_yX12_takesFirst, ks_RX12_yX12_takesFirst, kn_RX12, kc_yX12_takesFirst, rfl, by decide +kernel, by decide +kernel, by decide +kernel⟩
set_option maxHeartbeats 1200000 in
set_option maxRecDepth 20000 in
theorem c_X12_lays {E : zE} {l : Launch} (hst : l.stackTraces = false) (a : Nat) (x1 : Int) : Con E l yX12_lays cX12_lays 2 none { frames := 1, cells := 0, slots := 0, locals := 23 } (fun G s vs => vs = [.ref a, .int (zI x1)] ∧ zGK G ∧ zSK G s ∧ (gT G a = 13) ∧ (0 ≤ x1 ∧ x1 ≤ 2) ∧ (1 ≤ s (gP G a 27) (x1 + 480).toNat) ∧ (zc (s (gP G a 27)) ≤ 60)) (fun G s _ => pV (fun G2 s2 => G2 = G ∧ zSK G s2 ∧ zFr [13, 84] G s s2 ∧ zc (s2 (gP G a 27)) = zc (s (gP G a 27)) ∧ s2 (gP G a 27) 488 = s (gP G a 27) 488 ∧ s2 a 0 = s a 0 ∧ s2 a 3 = s a 3 ∧ s2 a 4 = s a 4 ∧ s2 a 5 = s a 5 ∧ s2 a 7 = s a 7 ∧ s2 a 21 = s a 21 ∧ s2 a 22 = s a 22 ∧ s2 a 23 = s a 23 ∧ s2 a 24 = s a 24 ∧ s2 a 38 = s a 38 ∧ s2 a 51 = s a 51 ∧ s2 a 52 = s a 52)) := by
  refine Con.mk hst (by decide) (fun G s vs h => by rw [h.1]; exact Nat.le_of_ble_eq_true rfl) ?_
  rintro X G s0 vs ⟨rfl, hG, hS0, ha, hx1, e0, e1⟩ rfl hx hq
  show JJ X E 2 G s0 0 0 [(0, .ref a), (1, .int (zI x1))] 0 []
  refine j_aload_n hx 0 dX12_lays_0 rfl ?_
  refine j_aload_n hx 0 dX12_lays_1 rfl ?_
  refine j_iload_n hx 1 dX12_lays_2 rfl ?_
  refine j_callV hx hG (c_X12_takesFirst hst a x1) lk_RX12_371 ha (by decide) rfl rfl rfl rfl [.int (zI x1)] ⟨rfl, hG, hS0, ha, (by omega), (by omega), (by omega)⟩ rfl rfl ⟨by decide, by decide⟩ ⟨by decide, by decide⟩ (k2 := 0) (n2 := 0) rfl rfl (Nat.le_of_ble_eq_true rfl) dX12_lays_3 (kIM (fun v1 s1 hS_s1 hF_s1 q2 => ?_))
  refine p13_43 hx hG ha kf_RX12_374 dX12_lays_6 ?_
  obtain ⟨s2, e_s2⟩ : ∃ z, z = zU s1 a 43 v1 := ⟨_, rfl⟩
  rw [← e_s2]
  have hS_s2 : zSK G s2 := by rw [e_s2]; exact zSK_F hS_s1 ha rfl rfl rfl (by omega)
  refine j_aload_n hx 0 dX12_lays_9 rfl ?_
  refine j_aload_n hx 0 dX12_lays_10 rfl ?_
  refine g13_27 hx hG ha kf_RX12_56 dX12_lays_11 ?_
  refine j_sipush hx dX12_lays_14 rfl ?_
  refine j_aload_n hx 0 dX12_lays_17 rfl ?_
  refine g13_43 hx hG ha kf_RX12_374 (v := v1) (by rw [e_s2, zU_eq]) dX12_lays_18 ?_
  refine j_iadd hx (r := v1 + 420) dX12_lays_21 (by omega) ?_
  have f3 := zaQ (j := (v1 + 420).toNat) hS_s1 (zr (k := 27) (t2 := 84) hG ha rfl) (congrArg some (axS_1 (v1 + 420).toNat (by omega))) (zlen hG (zr (k := 27) (t2 := 84) hG ha rfl) (n := 515) rfl rfl) (show 0 ≤ v1 + 420 by omega) (by omega) rfl
  refine j_iald hx hG (zr (k := 27) (t2 := 84) hG ha rfl) (by decide) rfl (zlen hG (zr (k := 27) (t2 := 84) hG ha rfl) (n := 515) rfl rfl) (by omega) (by omega) (j := (v1 + 420).toNat) rfl (v := (s1 (gP G a 27) (v1 + 420).toNat)) (by rw [e_s2, zU_at (Or.inl (zne ha (zr (k := 27) (t2 := 84) hG ha rfl) (by decide)))]) dX12_lays_22 ?_
  refine j_iconst hx dX12_lays_23 ?_
  have c32_3 : ∀ (v4 : Int), (0 ≤ v4 ∧ v4 ≤ 1) → JJ X E 2 G s2 0 0 [(0, .ref a), (1, .int (zI x1))] 32 [.int (zI v4), .ref a] := by
    intro v4 fA4
    refine p13_44 hx hG ha kf_RX12_377 (by omega) dX12_lays_32 ?_
    obtain ⟨s5, e_s5⟩ : ∃ z, z = zU s2 a 44 v4 := ⟨_, rfl⟩
    rw [← e_s5]
    have hS_s5 : zSK G s5 := by rw [e_s5]; exact zSK_F hS_s2 ha rfl rfl rfl (by omega)
    refine j_aload_n hx 0 dX12_lays_35 rfl ?_
    refine g13_27 hx hG ha kf_RX12_56 dX12_lays_36 ?_
    refine j_sipush hx dX12_lays_39 rfl ?_
    refine j_aload_n hx 0 dX12_lays_42 rfl ?_
    refine g13_43 hx hG ha kf_RX12_374 (v := v1) (by rw [e_s5, zU_at (Or.inr (by decide)), e_s2, zU_eq]) dX12_lays_43 ?_
    refine j_iadd hx (r := v1 + 420) dX12_lays_46 (by omega) ?_
    refine j_iconst hx dX12_lays_47 ?_
    refine j_iast hx hG (zr (k := 27) (t2 := 84) hG ha rfl) (by decide) rfl (zlen hG (zr (k := 27) (t2 := 84) hG ha rfl) (n := 515) rfl rfl) (by omega) (by omega) (j := (v1 + 420).toNat) rfl dX12_lays_48 ?_
    obtain ⟨s6, e_s6⟩ : ∃ z, z = zU s5 (gP G a 27) (v1 + 420).toNat 1 := ⟨_, rfl⟩
    rw [← e_s6]
    have hS_s6 : zSK G s6 := by rw [e_s6]; exact zSK_a hS_s5 (zr (k := 27) (t2 := 84) hG ha rfl) rfl rfl (congrArg some (axS_1 (v1 + 420).toNat (by omega))) (by omega)
    have g6 : zc (s5 (gP G a 27)) = zc (s1 (gP G a 27)) := by rw [e_s5, zU_ne (zne ha (zr (k := 27) (t2 := 84) hG ha rfl) (by decide)), e_s2, zU_ne (zne ha (zr (k := 27) (t2 := 84) hG ha rfl) (by decide))]
    have z5 : zc (s6 (gP G a 27)) = zc (s5 (gP G a 27)) := by rw [e_s6]; exact zc_o (by omega)
    refine j_aload_n hx 0 dX12_lays_49 rfl ?_
    refine g13_27 hx hG ha kf_RX12_56 dX12_lays_50 ?_
    refine j_sipush hx dX12_lays_53 rfl ?_
    refine j_bipush hx dX12_lays_56 rfl ?_
    refine j_iload_n hx 1 dX12_lays_58 rfl ?_
    refine j_imul hx (r := 60 * x1) dX12_lays_59 rfl ?_
    refine j_iadd hx (r := 60 * x1 + 180) dX12_lays_60 (by omega) ?_
    refine j_aload_n hx 0 dX12_lays_61 rfl ?_
    refine g13_27 hx hG ha kf_RX12_56 dX12_lays_62 ?_
    refine j_sipush hx dX12_lays_65 rfl ?_
    refine j_iload_n hx 1 dX12_lays_68 rfl ?_
    refine j_iadd hx (r := x1 + 483) dX12_lays_69 (by omega) ?_
    have f7 := zaQ (j := (x1 + 483).toNat) hS_s1 (zr (k := 27) (t2 := 84) hG ha rfl) (congrArg some (axS_2 (x1 + 483).toNat (by omega))) (zlen hG (zr (k := 27) (t2 := 84) hG ha rfl) (n := 515) rfl rfl) (show 0 ≤ x1 + 483 by omega) (by omega) rfl
    have c8 := zc_1 (j := (x1 + 483).toNat) hS_s1 (zr (k := 27) (t2 := 84) hG ha rfl) (zn hG (zr (k := 27) (t2 := 84) hG ha rfl) rfl) (by omega) (by omega)
    refine j_iald hx hG (zr (k := 27) (t2 := 84) hG ha rfl) (by decide) rfl (zlen hG (zr (k := 27) (t2 := 84) hG ha rfl) (n := 515) rfl rfl) (by omega) (by omega) (j := (x1 + 483).toNat) rfl (v := (s1 (gP G a 27) (x1 + 483).toNat)) (by rw [e_s6, zU_at (Or.inr (by omega)), e_s5, zU_at (Or.inl (zne ha (zr (k := 27) (t2 := 84) hG ha rfl) (by decide))), e_s2, zU_at (Or.inl (zne ha (zr (k := 27) (t2 := 84) hG ha rfl) (by decide)))]) dX12_lays_70 ?_
    refine j_iadd hx (r := 60 * x1 + (s1 (gP G a 27) (x1 + 483).toNat) + 180) dX12_lays_71 (by omega) ?_
    refine j_aload_n hx 0 dX12_lays_72 rfl ?_
    refine g13_43 hx hG ha kf_RX12_374 (v := v1) (by rw [e_s6, zU_at (Or.inl (zne (zr (k := 27) (t2 := 84) hG ha rfl) ha (by decide))), e_s5, zU_at (Or.inr (by decide)), e_s2, zU_eq]) dX12_lays_73 ?_
    refine j_iast hx hG (zr (k := 27) (t2 := 84) hG ha rfl) (by decide) rfl (zlen hG (zr (k := 27) (t2 := 84) hG ha rfl) (n := 515) rfl rfl) (by omega) (by omega) (j := (60 * x1 + (s1 (gP G a 27) (x1 + 483).toNat) + 180).toNat) rfl dX12_lays_76 ?_
    obtain ⟨s7, e_s7⟩ : ∃ z, z = zU s6 (gP G a 27) (60 * x1 + (s1 (gP G a 27) (x1 + 483).toNat) + 180).toNat v1 := ⟨_, rfl⟩
    rw [← e_s7]
    have hS_s7 : zSK G s7 := by rw [e_s7]; exact zSK_a hS_s6 (zr (k := 27) (t2 := 84) hG ha rfl) rfl rfl (congrArg some (axS_0 (60 * x1 + (s1 (gP G a 27) (x1 + 483).toNat) + 180).toNat (by omega))) (by omega)
    have z9 : zc (s7 (gP G a 27)) = zc (s6 (gP G a 27)) := by rw [e_s7]; exact zc_o (by omega)
    refine j_aload_n hx 0 dX12_lays_77 rfl ?_
    refine g13_27 hx hG ha kf_RX12_56 dX12_lays_78 ?_
    refine j_sipush hx dX12_lays_81 rfl ?_
    refine j_iload_n hx 1 dX12_lays_84 rfl ?_
    refine j_iadd hx (r := x1 + 483) dX12_lays_85 (by omega) ?_
    refine j_dup2 hx dX12_lays_86 rfl rfl ?_
    refine j_iald hx hG (zr (k := 27) (t2 := 84) hG ha rfl) (by decide) rfl (zlen hG (zr (k := 27) (t2 := 84) hG ha rfl) (n := 515) rfl rfl) (by omega) (by omega) (j := (x1 + 483).toNat) rfl (v := (s1 (gP G a 27) (x1 + 483).toNat)) (by rw [e_s7, zU_at (Or.inr (by omega)), e_s6, zU_at (Or.inr (by omega)), e_s5, zU_at (Or.inl (zne ha (zr (k := 27) (t2 := 84) hG ha rfl) (by decide))), e_s2, zU_at (Or.inl (zne ha (zr (k := 27) (t2 := 84) hG ha rfl) (by decide)))]) dX12_lays_87 ?_
    refine j_iconst hx dX12_lays_88 ?_
    refine j_iadd hx (r := (s1 (gP G a 27) (x1 + 483).toNat) + 1) dX12_lays_89 (by omega) ?_
    refine j_iast hx hG (zr (k := 27) (t2 := 84) hG ha rfl) (by decide) rfl (zlen hG (zr (k := 27) (t2 := 84) hG ha rfl) (n := 515) rfl rfl) (by omega) (by omega) (j := (x1 + 483).toNat) rfl dX12_lays_90 ?_
    obtain ⟨s8, e_s8⟩ : ∃ z, z = zU s7 (gP G a 27) (x1 + 483).toNat ((s1 (gP G a 27) (x1 + 483).toNat) + 1) := ⟨_, rfl⟩
    rw [← e_s8]
    have hS_s8 : zSK G s8 := by rw [e_s8]; exact zSK_a hS_s7 (zr (k := 27) (t2 := 84) hG ha rfl) rfl rfl (congrArg some (axS_2 (x1 + 483).toNat (by omega))) (by omega)
    have g11 : s7 (gP G a 27) (x1 + 483).toNat = s1 (gP G a 27) (x1 + 483).toNat := (by rw [e_s7, zU_at (Or.inr (by omega)), e_s6, zU_at (Or.inr (by omega)), e_s5, zU_at (Or.inl (zne ha (zr (k := 27) (t2 := 84) hG ha rfl) (by decide))), e_s2, zU_at (Or.inl (zne ha (zr (k := 27) (t2 := 84) hG ha rfl) (by decide)))])
    have g12 : s8 (gP G a 27) (x1 + 483).toNat = (s1 (gP G a 27) (x1 + 483).toNat) + 1 := (by rw [e_s8, zU_eq])
    have z10 : zc (s8 (gP G a 27)) = zc (s7 (gP G a 27)) - s7 (gP G a 27) (x1 + 483).toNat + s8 (gP G a 27) (x1 + 483).toNat := by rw [e_s8, zU_eq]; exact zc_w (by omega) (by omega)
    have g13 : s8 (gP G a 27) 488 = s1 (gP G a 27) 488 := (by rw [e_s8, zU_at (Or.inr (by omega)), e_s7, zU_at (Or.inr (by omega)), e_s6, zU_at (Or.inr (by omega)), e_s5, zU_at (Or.inl (zne ha (zr (k := 27) (t2 := 84) hG ha rfl) (by decide))), e_s2, zU_at (Or.inl (zne ha (zr (k := 27) (t2 := 84) hG ha rfl) (by decide)))])
    have g14 : s8 a 0 = s0 a 0 := (by rw [e_s8, zU_at (Or.inl (zne (zr (k := 27) (t2 := 84) hG ha rfl) ha (by decide))), e_s7, zU_at (Or.inl (zne (zr (k := 27) (t2 := 84) hG ha rfl) ha (by decide))), e_s6, zU_at (Or.inl (zne (zr (k := 27) (t2 := 84) hG ha rfl) ha (by decide))), e_s5, zU_at (Or.inr (by decide)), e_s2, zU_at (Or.inr (by decide)), (zFr_g hF_s1 ha (by decide))])
    have f15 := zf hS0 ha (k := 0) rfl
    have g16 : s8 a 3 = s0 a 3 := (by rw [e_s8, zU_at (Or.inl (zne (zr (k := 27) (t2 := 84) hG ha rfl) ha (by decide))), e_s7, zU_at (Or.inl (zne (zr (k := 27) (t2 := 84) hG ha rfl) ha (by decide))), e_s6, zU_at (Or.inl (zne (zr (k := 27) (t2 := 84) hG ha rfl) ha (by decide))), e_s5, zU_at (Or.inr (by decide)), e_s2, zU_at (Or.inr (by decide)), (zFr_g hF_s1 ha (by decide))])
    have f17 := zf hS0 ha (k := 3) rfl
    have g18 : s8 a 4 = s0 a 4 := (by rw [e_s8, zU_at (Or.inl (zne (zr (k := 27) (t2 := 84) hG ha rfl) ha (by decide))), e_s7, zU_at (Or.inl (zne (zr (k := 27) (t2 := 84) hG ha rfl) ha (by decide))), e_s6, zU_at (Or.inl (zne (zr (k := 27) (t2 := 84) hG ha rfl) ha (by decide))), e_s5, zU_at (Or.inr (by decide)), e_s2, zU_at (Or.inr (by decide)), (zFr_g hF_s1 ha (by decide))])
    have f19 := zf hS0 ha (k := 4) rfl
    have g20 : s8 a 5 = s0 a 5 := (by rw [e_s8, zU_at (Or.inl (zne (zr (k := 27) (t2 := 84) hG ha rfl) ha (by decide))), e_s7, zU_at (Or.inl (zne (zr (k := 27) (t2 := 84) hG ha rfl) ha (by decide))), e_s6, zU_at (Or.inl (zne (zr (k := 27) (t2 := 84) hG ha rfl) ha (by decide))), e_s5, zU_at (Or.inr (by decide)), e_s2, zU_at (Or.inr (by decide)), (zFr_g hF_s1 ha (by decide))])
    have f21 := zf hS0 ha (k := 5) rfl
    have g22 : s8 a 7 = s0 a 7 := (by rw [e_s8, zU_at (Or.inl (zne (zr (k := 27) (t2 := 84) hG ha rfl) ha (by decide))), e_s7, zU_at (Or.inl (zne (zr (k := 27) (t2 := 84) hG ha rfl) ha (by decide))), e_s6, zU_at (Or.inl (zne (zr (k := 27) (t2 := 84) hG ha rfl) ha (by decide))), e_s5, zU_at (Or.inr (by decide)), e_s2, zU_at (Or.inr (by decide)), (zFr_g hF_s1 ha (by decide))])
    have f23 := zf hS0 ha (k := 7) rfl
    have g24 : s8 a 21 = s0 a 21 := (by rw [e_s8, zU_at (Or.inl (zne (zr (k := 27) (t2 := 84) hG ha rfl) ha (by decide))), e_s7, zU_at (Or.inl (zne (zr (k := 27) (t2 := 84) hG ha rfl) ha (by decide))), e_s6, zU_at (Or.inl (zne (zr (k := 27) (t2 := 84) hG ha rfl) ha (by decide))), e_s5, zU_at (Or.inr (by decide)), e_s2, zU_at (Or.inr (by decide)), (zFr_g hF_s1 ha (by decide))])
    have f25 := zf hS0 ha (k := 21) rfl
    have g26 : s8 a 22 = s0 a 22 := (by rw [e_s8, zU_at (Or.inl (zne (zr (k := 27) (t2 := 84) hG ha rfl) ha (by decide))), e_s7, zU_at (Or.inl (zne (zr (k := 27) (t2 := 84) hG ha rfl) ha (by decide))), e_s6, zU_at (Or.inl (zne (zr (k := 27) (t2 := 84) hG ha rfl) ha (by decide))), e_s5, zU_at (Or.inr (by decide)), e_s2, zU_at (Or.inr (by decide)), (zFr_g hF_s1 ha (by decide))])
    have f27 := zf hS0 ha (k := 22) rfl
    have g28 : s8 a 23 = s0 a 23 := (by rw [e_s8, zU_at (Or.inl (zne (zr (k := 27) (t2 := 84) hG ha rfl) ha (by decide))), e_s7, zU_at (Or.inl (zne (zr (k := 27) (t2 := 84) hG ha rfl) ha (by decide))), e_s6, zU_at (Or.inl (zne (zr (k := 27) (t2 := 84) hG ha rfl) ha (by decide))), e_s5, zU_at (Or.inr (by decide)), e_s2, zU_at (Or.inr (by decide)), (zFr_g hF_s1 ha (by decide))])
    have f29 := zf hS0 ha (k := 23) rfl
    have g30 : s8 a 24 = s0 a 24 := (by rw [e_s8, zU_at (Or.inl (zne (zr (k := 27) (t2 := 84) hG ha rfl) ha (by decide))), e_s7, zU_at (Or.inl (zne (zr (k := 27) (t2 := 84) hG ha rfl) ha (by decide))), e_s6, zU_at (Or.inl (zne (zr (k := 27) (t2 := 84) hG ha rfl) ha (by decide))), e_s5, zU_at (Or.inr (by decide)), e_s2, zU_at (Or.inr (by decide)), (zFr_g hF_s1 ha (by decide))])
    have f31 := zf hS0 ha (k := 24) rfl
    have g32 : s8 a 38 = s0 a 38 := (by rw [e_s8, zU_at (Or.inl (zne (zr (k := 27) (t2 := 84) hG ha rfl) ha (by decide))), e_s7, zU_at (Or.inl (zne (zr (k := 27) (t2 := 84) hG ha rfl) ha (by decide))), e_s6, zU_at (Or.inl (zne (zr (k := 27) (t2 := 84) hG ha rfl) ha (by decide))), e_s5, zU_at (Or.inr (by decide)), e_s2, zU_at (Or.inr (by decide)), (zFr_g hF_s1 ha (by decide))])
    have f33 := zf hS0 ha (k := 38) rfl
    have g34 : s8 a 51 = s0 a 51 := (by rw [e_s8, zU_at (Or.inl (zne (zr (k := 27) (t2 := 84) hG ha rfl) ha (by decide))), e_s7, zU_at (Or.inl (zne (zr (k := 27) (t2 := 84) hG ha rfl) ha (by decide))), e_s6, zU_at (Or.inl (zne (zr (k := 27) (t2 := 84) hG ha rfl) ha (by decide))), e_s5, zU_at (Or.inr (by decide)), e_s2, zU_at (Or.inr (by decide)), (zFr_g hF_s1 ha (by decide))])
    have f35 := zf hS0 ha (k := 51) rfl
    have g36 : s8 a 52 = s0 a 52 := (by rw [e_s8, zU_at (Or.inl (zne (zr (k := 27) (t2 := 84) hG ha rfl) ha (by decide))), e_s7, zU_at (Or.inl (zne (zr (k := 27) (t2 := 84) hG ha rfl) ha (by decide))), e_s6, zU_at (Or.inl (zne (zr (k := 27) (t2 := 84) hG ha rfl) ha (by decide))), e_s5, zU_at (Or.inr (by decide)), e_s2, zU_at (Or.inr (by decide)), (zFr_g hF_s1 ha (by decide))])
    have f37 := zf hS0 ha (k := 52) rfl
    exact j_vret hx hq rfl (by decide) (by decide) dX12_lays_91 ⟨rfl, rfl, hS_s8, (zFr_u (zFr_u (zFr_u (zFr_u (zFr_u (zFr_t zFr_rf hF_s1 (by decide)) e_s2 ha (by decide)) e_s5 ha (by decide)) e_s6 (zr (k := 27) (t2 := 84) hG ha rfl) (by decide)) e_s7 (zr (k := 27) (t2 := 84) hG ha rfl) (by decide)) e_s8 (zr (k := 27) (t2 := 84) hG ha rfl) (by decide)), ⟨by omega, by omega, by omega, by omega, by omega, by omega, by omega, by omega, by omega, by omega, by omega, by omega, by omega, by omega⟩⟩
  refine j_icmp_ne hx 31 dX12_lays_24 rfl (by omega) ⟨by decide, by decide⟩ (fun h38 => ?_) (fun h38 => ?_)
  · skip
    refine j_iconst hx dX12_lays_31 ?_
    exact j_sub [0, 1] [(0, .ref a), (1, .int (zI x1))] rfl (c32_3 0 (by omega))
  · skip
    refine j_iconst hx dX12_lays_27 ?_
    refine j_goto hx 32 dX12_lays_28 rfl ?_
    exact j_sub [0, 1] [(0, .ref a), (1, .int (zI x1))] rfl (c32_3 1 (by omega))

set_option maxHeartbeats 1200000 in
set_option maxRecDepth 20000 in
theorem c_X12_drawn {E : zE} {l : Launch} (hst : l.stackTraces = false) (a : Nat) : Con E l yX12_drawn cX12_drawn 1 (some .int) { frames := 0, cells := 0, slots := 0, locals := 0 } (fun G s vs => vs = [.ref a] ∧ zGK G ∧ zSK G s ∧ (gT G a = 13)) (fun G s _ => pI (fun r G2 s2 => G2 = G ∧ zSK G s2 ∧ zFr [84] G s s2 ∧ (0 ≤ r ∧ r ≤ 3) ∧ zc (s2 (gP G a 27)) = zc (s (gP G a 27)) ∧ s2 (gP G a 27) 488 = s (gP G a 27) 488)) := by
  refine Con.mk hst (by decide) (fun G s vs h => by rw [h.1]; exact Nat.le_of_ble_eq_true rfl) ?_
  rintro X G s0 vs ⟨rfl, hG, hS0, ha⟩ rfl hx hq
  show JJ X E 1 G s0 0 0 [(0, .ref a)] 0 []
  refine j_aload_n hx 0 dX12_drawn_0 rfl ?_
  refine g13_27 hx hG ha kf_RX12_56 dX12_drawn_1 ?_
  refine j_sipush hx dX12_drawn_4 rfl ?_
  refine j_aload_n hx 0 dX12_drawn_7 rfl ?_
  refine g13_27 hx hG ha kf_RX12_56 dX12_drawn_8 ?_
  refine j_sipush hx dX12_drawn_11 rfl ?_
  have f1 := zaQ (j := 489) hS0 (zr (k := 27) (t2 := 84) hG ha rfl) (congrArg some (axS_5 489 (by omega))) (zlen hG (zr (k := 27) (t2 := 84) hG ha rfl) (n := 515) rfl rfl) (show 0 ≤ 489 by omega) (by omega) rfl
  refine j_iald hx hG (zr (k := 27) (t2 := 84) hG ha rfl) (by decide) rfl (zlen hG (zr (k := 27) (t2 := 84) hG ha rfl) (n := 515) rfl rfl) (by omega) (by omega) (j := 489) rfl rfl dX12_drawn_14 ?_
  refine j_ldcw hx (c := 1103515245) dX12_drawn_15 kk_RX12_384 (by decide) ?_
  refine j_imul hx (r := 1103515245 * (s0 (gP G a 27) 489)) dX12_drawn_18 (by omega) ?_
  refine j_norm (fun v2 f3 f4 f5 => ?_)
  refine j_sipush hx dX12_drawn_19 rfl ?_
  refine j_iadd hx (r := v2 + 12345) dX12_drawn_22 rfl ?_
  refine j_norm (fun v6 f7 f8 f9 => ?_)
  refine j_iast hx hG (zr (k := 27) (t2 := 84) hG ha rfl) (by decide) rfl (zlen hG (zr (k := 27) (t2 := 84) hG ha rfl) (n := 515) rfl rfl) (by omega) (by omega) (j := 489) rfl dX12_drawn_23 ?_
  obtain ⟨s1, e_s1⟩ : ∃ z, z = zU s0 (gP G a 27) 489 v6 := ⟨_, rfl⟩
  rw [← e_s1]
  have hS_s1 : zSK G s1 := by rw [e_s1]; exact zSK_a hS0 (zr (k := 27) (t2 := 84) hG ha rfl) rfl rfl (congrArg some (axS_5 489 (by omega))) (by omega)
  have z10 : zc (s1 (gP G a 27)) = zc (s0 (gP G a 27)) := by rw [e_s1]; exact zc_o (by omega)
  refine j_aload_n hx 0 dX12_drawn_24 rfl ?_
  refine g13_27 hx hG ha kf_RX12_56 dX12_drawn_25 ?_
  refine j_sipush hx dX12_drawn_28 rfl ?_
  refine j_iald hx hG (zr (k := 27) (t2 := 84) hG ha rfl) (by decide) rfl (zlen hG (zr (k := 27) (t2 := 84) hG ha rfl) (n := 515) rfl rfl) (by omega) (by omega) (j := 489) rfl (v := v6) (by rw [e_s1, zU_eq]) dX12_drawn_31 ?_
  refine j_bipush hx dX12_drawn_32 rfl ?_
  refine j_ishr hx 16 65536 dX12_drawn_34 (by omega) rfl (by decide) (by decide) (fun v11 f12 f13 f14 f15 => ?_)
  refine j_iconst hx dX12_drawn_35 ?_
  refine j_iand hx dX12_drawn_36 (by omega) ⟨by decide, by decide⟩ (fun v16 f17 f18 f19 f20 _ => ?_)
  have g22 : s1 (gP G a 27) 488 = s0 (gP G a 27) 488 := (by rw [e_s1, zU_at (Or.inr (by decide))])
  exact j_iret hx hq rfl (by decide) (by decide) dX12_drawn_37 ⟨v16, rfl, rfl, hS_s1, (zFr_u zFr_rf e_s1 (zr (k := 27) (t2 := 84) hG ha rfl) (by decide)), ⟨(by omega), by omega, by omega⟩⟩

set_option maxHeartbeats 1200000 in
set_option maxRecDepth 20000 in
theorem c_X12_counts {E : zE} {l : Launch} (hst : l.stackTraces = false) (a : Nat) (x1 : Int) (x2 : Int) : Con E l yX12_counts cX12_counts 3 none { frames := 0, cells := 0, slots := 0, locals := 0 } (fun G s vs => vs = [.ref a, .int (zI x1), .int (zI x2)] ∧ zGK G ∧ zSK G s ∧ (gT G a = 13) ∧ (0 ≤ x1 ∧ x1 ≤ 2) ∧ (0 ≤ x2 ∧ x2 ≤ 5)) (fun G s _ => pV (fun G2 s2 => G2 = G ∧ zSK G s2 ∧ zFr [84] G s s2 ∧ zc (s2 (gP G a 27)) = zc (s (gP G a 27)) ∧ s2 (gP G a 27) 488 = s (gP G a 27) 488)) := by
  refine Con.mk hst (by decide) (fun G s vs h => by rw [h.1]; exact Nat.le_of_ble_eq_true rfl) ?_
  rintro X G s0 vs ⟨rfl, hG, hS0, ha, hx1, hx2⟩ rfl hx hq
  show JJ X E 3 G s0 0 0 [(0, .ref a), (1, .int (zI x1)), (2, .int (zI x2))] 0 []
  refine j_aload_n hx 0 dX12_counts_0 rfl ?_
  refine g13_27 hx hG ha kf_RX12_56 dX12_counts_1 ?_
  refine j_sipush hx dX12_counts_4 rfl ?_
  refine j_bipush hx dX12_counts_7 rfl ?_
  refine j_iload_n hx 1 dX12_counts_9 rfl ?_
  refine j_imul hx (r := 6 * x1) dX12_counts_10 rfl ?_
  refine j_iadd hx (r := 6 * x1 + 494) dX12_counts_11 (by omega) ?_
  refine j_iload_n hx 2 dX12_counts_12 rfl ?_
  refine j_iadd hx (r := 6 * x1 + x2 + 494) dX12_counts_13 (by omega) ?_
  refine j_dup2 hx dX12_counts_14 rfl rfl ?_
  have f1 := zaQ (j := (6 * x1 + x2 + 494).toNat) hS0 (zr (k := 27) (t2 := 84) hG ha rfl) (congrArg some (axS_8 (6 * x1 + x2 + 494).toNat (by omega))) (zlen hG (zr (k := 27) (t2 := 84) hG ha rfl) (n := 515) rfl rfl) (show 0 ≤ 6 * x1 + x2 + 494 by omega) (by omega) rfl
  refine j_iald hx hG (zr (k := 27) (t2 := 84) hG ha rfl) (by decide) rfl (zlen hG (zr (k := 27) (t2 := 84) hG ha rfl) (n := 515) rfl rfl) (by omega) (by omega) (j := (6 * x1 + x2 + 494).toNat) rfl rfl dX12_counts_15 ?_
  refine j_iconst hx dX12_counts_16 ?_
  refine j_iadd hx (r := (s0 (gP G a 27) (6 * x1 + x2 + 494).toNat) + 1) dX12_counts_17 (by omega) ?_
  refine j_norm (fun v2 f3 f4 f5 => ?_)
  refine j_iast hx hG (zr (k := 27) (t2 := 84) hG ha rfl) (by decide) rfl (zlen hG (zr (k := 27) (t2 := 84) hG ha rfl) (n := 515) rfl rfl) (by omega) (by omega) (j := (6 * x1 + x2 + 494).toNat) rfl dX12_counts_18 ?_
  obtain ⟨s1, e_s1⟩ : ∃ z, z = zU s0 (gP G a 27) (6 * x1 + x2 + 494).toNat v2 := ⟨_, rfl⟩
  rw [← e_s1]
  have hS_s1 : zSK G s1 := by rw [e_s1]; exact zSK_a hS0 (zr (k := 27) (t2 := 84) hG ha rfl) rfl rfl (congrArg some (axS_8 (6 * x1 + x2 + 494).toNat (by omega))) (by omega)
  have z6 : zc (s1 (gP G a 27)) = zc (s0 (gP G a 27)) := by rw [e_s1]; exact zc_o (by omega)
  have g7 : s1 (gP G a 27) 488 = s0 (gP G a 27) 488 := (by rw [e_s1, zU_at (Or.inr (by omega))])
  exact j_vret hx hq rfl (by decide) (by decide) dX12_counts_19 ⟨rfl, rfl, hS_s1, (zFr_u zFr_rf e_s1 (zr (k := 27) (t2 := 84) hG ha rfl) (by decide)), ⟨by omega, by omega⟩⟩

theorem lk_RX12_388 : LkV RX12 388 RX12 yX12_counts cX12_counts 3 none 2 := ⟨km_RX12_388, ki_yX12_counts, ks_RX12_yX12_counts, kn_RX12, kc_yX12_counts, rfl, by decide +kernel, by decide +kernel, by decide +kernel⟩
theorem lk_RX12_385 : LkV RX12 385 RX12 yX12_drawn cX12_drawn 1 (some .int) 0 := ⟨km_RX12_385, ki_yX12_drawn, ks_RX12_yX12_drawn, kn_RX12, kc_yX12_drawn, rfl, by decide +kernel, by decide +kernel, by decide +kernel⟩
set_option maxHeartbeats 1200000 in
set_option maxRecDepth 20000 in
theorem c_X12_plans {E : zE} {l : Launch} (hst : l.stackTraces = false) (a : Nat) (x1 : Int) : Con E l yX12_plans cX12_plans 5 none { frames := 4, cells := 0, slots := 0, locals := 96 } (fun G s vs => vs = [.ref a, .int (zI x1)] ∧ zGK G ∧ zSK G s ∧ (gT G a = 13) ∧ (0 ≤ x1 ∧ x1 ≤ 2) ∧ (zRva (s (gP G a 34)) (s (gP G a 35)) (s (gP G a 37)))) (fun G s _ => pV (fun G2 s2 => G2 = G ∧ zSK G s2 ∧ zFr [84, 95, 98] G s s2 ∧ zc (s2 (gP G a 27)) = zc (s (gP G a 27)) ∧ s2 (gP G a 27) 488 = s (gP G a 27) 488)) := by
  refine Con.mk hst (by decide) (fun G s vs h => by rw [h.1]; exact Nat.le_of_ble_eq_true rfl) ?_
  rintro X G s0 vs ⟨rfl, hG, hS0, ha, hx1, e0⟩ rfl hx hq
  show JJ X E 5 G s0 0 0 [(0, .ref a), (1, .int (zI x1))] 0 []
  refine j_aload_n hx 0 dX12_plans_0 rfl ?_
  refine j_iload_n hx 1 dX12_plans_1 rfl ?_
  refine j_callV hx hG (c_X12_next hst a x1) lk_RX12_331 ha (by decide) rfl rfl rfl rfl [.int (zI x1)] ⟨rfl, hG, hS0, ha, (by omega)⟩ rfl rfl ⟨by decide, by decide⟩ ⟨by decide, by decide⟩ (k2 := 0) (n2 := 0) rfl rfl (Nat.le_of_ble_eq_true rfl) dX12_plans_2 (kIP (fun v1 q2 => ?_))
  refine j_istore_n hx [(2, .int (zI v1)), (0, .ref a), (1, .int (zI x1))] dX12_plans_5 (by decide) rfl ?_
  refine j_iconst hx dX12_plans_6 ?_
  refine j_istore_n hx [(3, .int (zI 0)), (2, .int (zI v1)), (0, .ref a), (1, .int (zI x1))] dX12_plans_7 (by decide) rfl ?_
  have c8_1 : ∀ (m_c8_1 : Nat) (v3 : Int) (s2 : zS), 2147483648 - v3 < m_c8_1 → (0 ≤ v3 ∧ v3 ≤ 3) → (zSK G s2) → (zFr [84, 95, 98] G s0 s2) → (zc (s2 (gP G a 27)) = zc (s0 (gP G a 27))) → (s2 (gP G a 27) 488 = s0 (gP G a 27) 488) → JJ X E 5 G s2 0 0 [(0, .ref a), (1, .int (zI x1)), (2, .int (zI v1)), (3, .int (zI v3))] 8 [] := by
    intro m_c8_1
    induction m_c8_1 with
    | zero => intro v3 s2 hm_c8_1 fA3 hS_s2 hF_s2 fA6 fA7; exfalso; omega
    | succ m_c8_1 ih_c8_1 => 
      intro v3 s2 hm_c8_1 fA3 hS_s2 hF_s2 fA6 fA7
      refine j_iload_n hx 3 dX12_plans_8 rfl ?_
      refine j_aload_n hx 0 dX12_plans_9 rfl ?_
      have f4 := zf hS0 ha (k := 24) rfl
      refine g13_24 hx hG ha kf_RX12_189 (v := (s0 a 24)) (by rw [(zFr_g hF_s2 ha (by decide))]) dX12_plans_10 ?_
      refine j_icmp_ge hx 134 dX12_plans_13 rfl (by omega) (by omega) (fun h5 => ?_) (fun h5 => ?_)
      · skip
        exact j_vret hx hq rfl (by decide) (by decide) dX12_plans_134 ⟨rfl, rfl, hS_s2, (zFr_t zFr_rf hF_s2 (by decide)), ⟨by omega, by omega⟩⟩
      · skip
        refine j_aload_n hx 0 dX12_plans_16 rfl ?_
        refine j_iload_n hx 3 dX12_plans_17 rfl ?_
        refine j_callV hx hG (c_X12_isOut hst a v3) lk_RX12_325 ha (by decide) rfl rfl rfl rfl [.int (zI v3)] ⟨rfl, hG, hS_s2, ha, (by omega)⟩ rfl rfl ⟨by decide, by decide⟩ ⟨by decide, by decide⟩ (k2 := 0) (n2 := 0) rfl rfl (Nat.le_of_ble_eq_true rfl) dX12_plans_18 (kIP (fun v6 q7 => ?_))
        have c128_8 : ∀ (s9 : zS), (zSK G s9) → (zFr [84, 95, 98] G s2 s9) → (zc (s9 (gP G a 27)) = zc (s2 (gP G a 27))) → JJ X E 5 G s9 0 0 [(0, .ref a), (1, .int (zI x1)), (2, .int (zI v1)), (3, .int (zI v3))] 128 [] := by
          intro s9 hS_s9 hF_s9 fA12
          refine j_iinc hx 3 [(3, .int (zI (v3 + 1))), (0, .ref a), (1, .int (zI x1)), (2, .int (zI v1))] dX12_plans_128 rfl (by omega) (by decide) rfl ?_
          refine j_goto hx 8 dX12_plans_131 rfl ?_
          exact j_sub [1, 2, 3, 0] [(0, .ref a), (1, .int (zI x1)), (2, .int (zI v1)), (3, .int (zI (v3 + 1)))] rfl (ih_c8_1 (v3 + 1) s9 (by omega) (by omega) hS_s9 (zFr_t (zFr_t zFr_rf hF_s2 (by decide)) hF_s9 (by decide)) (by omega) (by omega))
        refine j_if_ne hx 128 dX12_plans_21 rfl (by omega) (fun h8 => ?_) (fun h8 => ?_)
        · skip
          exact j_sub [0, 1, 2, 3] [(0, .ref a), (1, .int (zI x1)), (2, .int (zI v1)), (3, .int (zI v3))] rfl (c128_8 s2 hS_s2 zFr_rf (by omega))
        · skip
          refine j_aload_n hx 0 dX12_plans_24 rfl ?_
          refine g13_45 hx hG ha kf_RX12_99 dX12_plans_25 ?_
          refine j_iload_n hx 3 dX12_plans_28 rfl ?_
          have f9 := zaI (j := (v3).toNat) hS_s2 (zr (k := 45) (t2 := 98) hG ha rfl) rfl (zlen hG (zr (k := 45) (t2 := 98) hG ha rfl) (n := 3) rfl rfl) (show 0 ≤ v3 by omega) (by omega) rfl
          refine j_iald hx hG (zr (k := 45) (t2 := 98) hG ha rfl) (by decide) rfl (zlen hG (zr (k := 45) (t2 := 98) hG ha rfl) (n := 3) rfl rfl) (by omega) (by omega) (j := (v3).toNat) rfl rfl dX12_plans_29 ?_
          refine j_iconst hx dX12_plans_30 ?_
          refine j_icmp_eq hx 128 dX12_plans_31 rfl (by omega) ⟨by decide, by decide⟩ (fun h10 => ?_) (fun h10 => ?_)
          · skip
            exact j_sub [0, 1, 2, 3] [(0, .ref a), (1, .int (zI x1)), (2, .int (zI v1)), (3, .int (zI v3))] rfl (c128_8 s2 hS_s2 zFr_rf (by omega))
          · skip
            refine j_aload_n hx 0 dX12_plans_34 rfl ?_
            refine j_iload_n hx 3 dX12_plans_35 rfl ?_
            refine j_iload_n hx 3 dX12_plans_36 rfl ?_
            refine j_iload_n hx 2 dX12_plans_37 rfl ?_
            refine j_callV hx hG (c_X12_holds hst a v3 v3 v1) lk_RX12_358 ha (by decide) rfl rfl rfl rfl [.int (zI v3), .int (zI v3), .int (zI v1)] ⟨rfl, hG, hS_s2, ha, (by omega), (by omega), (by omega), ((by have q1 : s2 (gP G a 34) = s0 (gP G a 34) := (by rw [hF_s2 (gP G a 34) (by rw [(zr (k := 34) (t2 := 91) hG ha rfl)]; decide)]); have q2 : s2 (gP G a 35) = s0 (gP G a 35) := (by rw [hF_s2 (gP G a 35) (by rw [(zr (k := 35) (t2 := 92) hG ha rfl)]; decide)]); have q3 : s2 (gP G a 37) = s0 (gP G a 37) := (by rw [hF_s2 (gP G a 37) (by rw [(zr (k := 37) (t2 := 94) hG ha rfl)]; decide)]); rw [q1, q2, q3]; exact e0))⟩ rfl rfl ⟨by decide, by decide⟩ ⟨by decide, by decide⟩ (k2 := 0) (n2 := 0) rfl rfl (Nat.le_of_ble_eq_true rfl) dX12_plans_38 (kIM (fun v11 s13 hS_s13 hF_s13 q12 => ?_))
            refine j_if_ne hx 47 dX12_plans_41 rfl (by omega) (fun h13 => ?_) (fun h13 => ?_)
            · skip
              refine j_aload_n hx 0 dX12_plans_47 rfl ?_
              refine g13_17 hx hG ha kf_RX12_44 dX12_plans_48 ?_
              refine j_iconst hx dX12_plans_51 ?_
              refine j_iload_n hx 3 dX12_plans_52 rfl ?_
              refine j_imul hx (r := 4 * v3) dX12_plans_53 rfl ?_
              refine j_iconst hx dX12_plans_54 ?_
              refine j_iadd hx (r := 4 * v3 + 2) dX12_plans_55 (by omega) ?_
              have f14 := zaI (j := (4 * v3 + 2).toNat) hS0 (zr (k := 17) (t2 := 80) hG ha rfl) rfl (zlen hG (zr (k := 17) (t2 := 80) hG ha rfl) (n := 12) rfl rfl) (show 0 ≤ 4 * v3 + 2 by omega) (by omega) rfl
              refine j_iald hx hG (zr (k := 17) (t2 := 80) hG ha rfl) (by decide) rfl (zlen hG (zr (k := 17) (t2 := 80) hG ha rfl) (n := 12) rfl rfl) (by omega) (by omega) (j := (4 * v3 + 2).toNat) rfl (v := (s0 (gP G a 17) (4 * v3 + 2).toNat)) (by rw [(zFr_g hF_s13 (zr (k := 17) (t2 := 80) hG ha rfl) (by decide)), (zFr_g hF_s2 (zr (k := 17) (t2 := 80) hG ha rfl) (by decide))]) dX12_plans_56 ?_
              refine j_aload_n hx 0 dX12_plans_57 rfl ?_
              refine g13_17 hx hG ha kf_RX12_44 dX12_plans_58 ?_
              refine j_iconst hx dX12_plans_61 ?_
              refine j_iload_n hx 3 dX12_plans_62 rfl ?_
              refine j_imul hx (r := 4 * v3) dX12_plans_63 rfl ?_
              refine j_iconst hx dX12_plans_64 ?_
              refine j_iadd hx (r := 4 * v3 + 3) dX12_plans_65 (by omega) ?_
              have f15 := zaI (j := (4 * v3 + 3).toNat) hS0 (zr (k := 17) (t2 := 80) hG ha rfl) rfl (zlen hG (zr (k := 17) (t2 := 80) hG ha rfl) (n := 12) rfl rfl) (show 0 ≤ 4 * v3 + 3 by omega) (by omega) rfl
              refine j_iald hx hG (zr (k := 17) (t2 := 80) hG ha rfl) (by decide) rfl (zlen hG (zr (k := 17) (t2 := 80) hG ha rfl) (n := 12) rfl rfl) (by omega) (by omega) (j := (4 * v3 + 3).toNat) rfl (v := (s0 (gP G a 17) (4 * v3 + 3).toNat)) (by rw [(zFr_g hF_s13 (zr (k := 17) (t2 := 80) hG ha rfl) (by decide)), (zFr_g hF_s2 (zr (k := 17) (t2 := 80) hG ha rfl) (by decide))]) dX12_plans_66 ?_
              refine j_iload_n hx 1 dX12_plans_67 rfl ?_
              have c76_14 : ∀ (v16 : Int), (0 ≤ v16 ∧ v16 ≤ 1) → JJ X E 5 G s13 0 0 [(0, .ref a), (1, .int (zI x1)), (2, .int (zI v1)), (3, .int (zI v3))] 76 [.int (zI v16), .int (zI ((s0 (gP G a 17) (4 * v3 + 2).toNat)))] := by
                intro v16 fA15
                refine j_iadd hx (r := (s0 (gP G a 17) (4 * v3 + 2).toNat) + v16) dX12_plans_76 (by omega) ?_
                refine j_aload_n hx 0 dX12_plans_77 rfl ?_
                refine g13_27 hx hG ha kf_RX12_56 dX12_plans_78 ?_
                refine j_sipush hx dX12_plans_81 rfl ?_
                have f17 := zaQ (j := 490) hS_s2 (zr (k := 27) (t2 := 84) hG ha rfl) (congrArg some (axS_6 490 (by omega))) (zlen hG (zr (k := 27) (t2 := 84) hG ha rfl) (n := 515) rfl rfl) (show 0 ≤ 490 by omega) (by omega) rfl
                refine j_iald hx hG (zr (k := 27) (t2 := 84) hG ha rfl) (by decide) rfl (zlen hG (zr (k := 27) (t2 := 84) hG ha rfl) (n := 515) rfl rfl) (by omega) (by omega) (j := 490) rfl (v := (s2 (gP G a 27) 490)) (by rw [(zFr_g hF_s13 (zr (k := 27) (t2 := 84) hG ha rfl) (by decide))]) dX12_plans_84 ?_
                refine j_iconst hx dX12_plans_85 ?_
                have g19 : zc (s13 (gP G a 27)) = zc (s2 (gP G a 27)) := by rw [hF_s13 (gP G a 27) (by rw [(zr (k := 27) (t2 := 84) hG ha rfl)]; decide)]
                have c97_16 : ∀ (v18 : Int) (s17 : zS), (0 ≤ v18 ∧ v18 ≤ 3) → (zSK G s17) → (zFr [84] G s13 s17) → (zc (s17 (gP G a 27)) = zc (s13 (gP G a 27))) → JJ X E 5 G s17 0 0 [(0, .ref a), (1, .int (zI x1)), (2, .int (zI v1)), (3, .int (zI v3))] 97 [.int (zI v18), .int (zI ((s0 (gP G a 17) (4 * v3 + 2).toNat) + v16))] := by
                  intro v18 s17 fA18 hS_s17 hF_s17 fA21
                  refine j_iadd hx (r := (s0 (gP G a 17) (4 * v3 + 2).toNat) + v16 + v18) dX12_plans_97 (by omega) ?_
                  refine j_istore hx [(4, .int (zI ((s0 (gP G a 17) (4 * v3 + 2).toNat) + v16 + v18))), (0, .ref a), (1, .int (zI x1)), (2, .int (zI v1)), (3, .int (zI v3))] dX12_plans_98 (by decide) rfl ?_
                  refine j_iload hx 0 dX12_plans_100 rfl ?_
                  refine j_aload_n hx 1 dX12_plans_102 rfl ?_
                  refine g13_18 hx hG ha kf_RX12_47 dX12_plans_103 ?_
                  refine j_iload_n hx 2 dX12_plans_106 rfl ?_
                  have f20 := zaI (j := (x1).toNat) hS0 (zr (k := 18) (t2 := 81) hG ha rfl) rfl (zlen hG (zr (k := 18) (t2 := 81) hG ha rfl) (n := 3) rfl rfl) (show 0 ≤ x1 by omega) (by omega) rfl
                  refine j_iald hx hG (zr (k := 18) (t2 := 81) hG ha rfl) (by decide) rfl (zlen hG (zr (k := 18) (t2 := 81) hG ha rfl) (n := 3) rfl rfl) (by omega) (by omega) (j := (x1).toNat) rfl (v := (s0 (gP G a 18) (x1).toNat)) (by rw [(zFr_g hF_s17 (zr (k := 18) (t2 := 81) hG ha rfl) (by decide)), (zFr_g hF_s13 (zr (k := 18) (t2 := 81) hG ha rfl) (by decide)), (zFr_g hF_s2 (zr (k := 18) (t2 := 81) hG ha rfl) (by decide))]) dX12_plans_107 ?_
                  refine j_icmp_lt hx 120 dX12_plans_108 rfl (by omega) (by omega) (fun h21 => ?_) (fun h21 => ?_)
                  · skip
                    refine j_aload_n hx 1 dX12_plans_120 rfl ?_
                    refine g13_45 hx hG ha kf_RX12_99 dX12_plans_121 ?_
                    refine j_iload_n hx 4 dX12_plans_124 rfl ?_
                    refine j_iload hx 0 dX12_plans_125 rfl ?_
                    refine j_iast hx hG (zr (k := 45) (t2 := 98) hG ha rfl) (by decide) rfl (zlen hG (zr (k := 45) (t2 := 98) hG ha rfl) (n := 3) rfl rfl) (by omega) (by omega) (j := (v3).toNat) rfl dX12_plans_127 ?_
                    obtain ⟨s22, e_s22⟩ : ∃ z, z = zU s17 (gP G a 45) (v3).toNat ((s0 (gP G a 17) (4 * v3 + 2).toNat) + v16 + v18) := ⟨_, rfl⟩
                    rw [← e_s22]
                    have hS_s22 : zSK G s22 := by rw [e_s22]; exact zSK_A hS_s17 (zr (k := 45) (t2 := 98) hG ha rfl) rfl rfl rfl (by omega)
                    have g22 : zc (s22 (gP G a 27)) = zc (s17 (gP G a 27)) := by rw [e_s22, zU_ne (zne (zr (k := 45) (t2 := 98) hG ha rfl) (zr (k := 27) (t2 := 84) hG ha rfl) (by decide))]
                    exact j_sub [1, 2, 3, 4] [(0, .ref a), (1, .int (zI x1)), (2, .int (zI v1)), (3, .int (zI v3))] rfl (c128_8 s22 hS_s22 (zFr_u (zFr_t (zFr_t zFr_rf hF_s13 (by decide)) hF_s17 (by decide)) e_s22 (zr (k := 45) (t2 := 98) hG ha rfl) (by decide)) (by omega))
                  · skip
                    refine j_aload_n hx 1 dX12_plans_111 rfl ?_
                    refine j_iload_n hx 4 dX12_plans_112 rfl ?_
                    refine j_iconst hx dX12_plans_113 ?_
                    refine j_callV hx hG (c_X12_counts hst a v3 5) lk_RX12_388 ha (by decide) rfl rfl rfl rfl [.int (zI v3), .int (zI 5)] ⟨rfl, hG, hS_s17, ha, (by omega), (by omega)⟩ rfl rfl ⟨by decide, by decide⟩ ⟨by decide, by decide⟩ (k2 := 0) (n2 := 0) rfl rfl (Nat.le_of_ble_eq_true rfl) dX12_plans_114 (kVM (fun s23 hS_s23 hF_s23 q24 => ?_))
                    refine j_goto hx 128 dX12_plans_117 rfl ?_
                    exact j_sub [1, 2, 3, 4] [(0, .ref a), (1, .int (zI x1)), (2, .int (zI v1)), (3, .int (zI v3))] rfl (c128_8 s23 hS_s23 (zFr_t (zFr_t (zFr_t zFr_rf hF_s13 (by decide)) hF_s17 (by decide)) hF_s23 (by decide)) (by omega))
                refine j_icmp_ne hx 96 dX12_plans_86 rfl (by omega) ⟨by decide, by decide⟩ (fun h25 => ?_) (fun h25 => ?_)
                · skip
                  refine j_iconst hx dX12_plans_96 ?_
                  exact j_sub [0, 1, 2, 3] [(0, .ref a), (1, .int (zI x1)), (2, .int (zI v1)), (3, .int (zI v3))] rfl (c97_16 0 s13 (by omega) hS_s13 zFr_rf (by omega))
                · skip
                  refine j_aload_n hx 0 dX12_plans_89 rfl ?_
                  have g26 : s13 (gP G a 27) 488 = s2 (gP G a 27) 488 := (by rw [(zFr_g hF_s13 (zr (k := 27) (t2 := 84) hG ha rfl) (by decide))])
                  refine j_callV hx hG (c_X12_drawn hst a) lk_RX12_385 ha (by decide) rfl rfl rfl rfl [] ⟨rfl, hG, hS_s13, ha⟩ rfl rfl ⟨by decide, by decide⟩ ⟨by decide, by decide⟩ (k2 := 0) (n2 := 0) rfl rfl (Nat.le_of_ble_eq_true rfl) dX12_plans_90 (kIM (fun v27 s24 hS_s24 hF_s24 q28 => ?_))
                  refine j_goto hx 97 dX12_plans_93 rfl ?_
                  exact j_sub [0, 1, 2, 3] [(0, .ref a), (1, .int (zI x1)), (2, .int (zI v1)), (3, .int (zI v3))] rfl (c97_16 v27 s24 (by omega) hS_s24 (zFr_t zFr_rf hF_s24 (by decide)) (by omega))
              refine j_icmp_ne hx 75 dX12_plans_68 rfl (by omega) (by omega) (fun h29 => ?_) (fun h29 => ?_)
              · skip
                refine j_iconst hx dX12_plans_75 ?_
                exact j_sub [0, 1, 2, 3] [(0, .ref a), (1, .int (zI x1)), (2, .int (zI v1)), (3, .int (zI v3))] rfl (c76_14 1 (by omega))
              · skip
                refine j_iconst hx dX12_plans_71 ?_
                refine j_goto hx 76 dX12_plans_72 rfl ?_
                exact j_sub [0, 1, 2, 3] [(0, .ref a), (1, .int (zI x1)), (2, .int (zI v1)), (3, .int (zI v3))] rfl (c76_14 0 (by omega))
            · skip
              refine j_goto hx 128 dX12_plans_44 rfl ?_
              have g30 : zc (s13 (gP G a 27)) = zc (s2 (gP G a 27)) := by rw [hF_s13 (gP G a 27) (by rw [(zr (k := 27) (t2 := 84) hG ha rfl)]; decide)]
              exact j_sub [0, 1, 2, 3] [(0, .ref a), (1, .int (zI x1)), (2, .int (zI v1)), (3, .int (zI v3))] rfl (c128_8 s13 hS_s13 (zFr_t zFr_rf hF_s13 (by decide)) (by omega))
  exact j_sub [2, 3, 1, 0] [(0, .ref a), (1, .int (zI x1)), (2, .int (zI v1)), (3, .int (zI 0))] rfl (c8_1 (2147483648 * 4) 0 s0 (by omega) (by omega) hS0 zFr_rf (by omega) (by omega))

set_option maxHeartbeats 1200000 in
set_option maxRecDepth 20000 in
theorem c_X12_pools {E : zE} {l : Launch} (hst : l.stackTraces = false) (a : Nat) (x1 : Int) : Con E l yX12_pools cX12_pools 2 none { frames := 0, cells := 0, slots := 0, locals := 0 } (fun G s vs => vs = [.ref a, .int (zI x1)] ∧ zGK G ∧ zSK G s ∧ (gT G a = 13) ∧ (0 ≤ x1 ∧ x1 ≤ 59) ∧ (zc (s (gP G a 27)) ≤ 59)) (fun G s _ => pV (fun G2 s2 => G2 = G ∧ zSK G s2 ∧ zFr [84] G s s2 ∧ zc (s2 (gP G a 27)) = zc (s (gP G a 27)) + 1 ∧ s2 (gP G a 27) 488 = s (gP G a 27) 488)) := by
  refine Con.mk hst (by decide) (fun G s vs h => by rw [h.1]; exact Nat.le_of_ble_eq_true rfl) ?_
  rintro X G s0 vs ⟨rfl, hG, hS0, ha, hx1, e0⟩ rfl hx hq
  show JJ X E 2 G s0 0 0 [(0, .ref a), (1, .int (zI x1))] 0 []
  refine j_aload_n hx 0 dX12_pools_0 rfl ?_
  refine g13_27 hx hG ha kf_RX12_56 dX12_pools_1 ?_
  refine j_sipush hx dX12_pools_4 rfl ?_
  refine j_aload_n hx 0 dX12_pools_7 rfl ?_
  refine g13_27 hx hG ha kf_RX12_56 dX12_pools_8 ?_
  refine j_sipush hx dX12_pools_11 rfl ?_
  have f1 := zaQ (j := 486) hS0 (zr (k := 27) (t2 := 84) hG ha rfl) (congrArg some (axS_2 486 (by omega))) (zlen hG (zr (k := 27) (t2 := 84) hG ha rfl) (n := 515) rfl rfl) (show 0 ≤ 486 by omega) (by omega) rfl
  have c2 := zc_1 (j := 486) hS0 (zr (k := 27) (t2 := 84) hG ha rfl) (zn hG (zr (k := 27) (t2 := 84) hG ha rfl) rfl) (by omega) (by omega)
  refine j_iald hx hG (zr (k := 27) (t2 := 84) hG ha rfl) (by decide) rfl (zlen hG (zr (k := 27) (t2 := 84) hG ha rfl) (n := 515) rfl rfl) (by omega) (by omega) (j := 486) rfl rfl dX12_pools_14 ?_
  refine j_iadd hx (r := (s0 (gP G a 27) 486) + 360) dX12_pools_15 (by omega) ?_
  refine j_iload_n hx 1 dX12_pools_16 rfl ?_
  refine j_iast hx hG (zr (k := 27) (t2 := 84) hG ha rfl) (by decide) rfl (zlen hG (zr (k := 27) (t2 := 84) hG ha rfl) (n := 515) rfl rfl) (by omega) (by omega) (j := ((s0 (gP G a 27) 486) + 360).toNat) rfl dX12_pools_17 ?_
  obtain ⟨s1, e_s1⟩ : ∃ z, z = zU s0 (gP G a 27) ((s0 (gP G a 27) 486) + 360).toNat x1 := ⟨_, rfl⟩
  rw [← e_s1]
  have hS_s1 : zSK G s1 := by rw [e_s1]; exact zSK_a hS0 (zr (k := 27) (t2 := 84) hG ha rfl) rfl rfl (congrArg some (axS_0 ((s0 (gP G a 27) 486) + 360).toNat (by omega))) (by omega)
  have z3 : zc (s1 (gP G a 27)) = zc (s0 (gP G a 27)) := by rw [e_s1]; exact zc_o (by omega)
  refine j_aload_n hx 0 dX12_pools_18 rfl ?_
  refine g13_27 hx hG ha kf_RX12_56 dX12_pools_19 ?_
  refine j_sipush hx dX12_pools_22 rfl ?_
  refine j_dup2 hx dX12_pools_25 rfl rfl ?_
  refine j_iald hx hG (zr (k := 27) (t2 := 84) hG ha rfl) (by decide) rfl (zlen hG (zr (k := 27) (t2 := 84) hG ha rfl) (n := 515) rfl rfl) (by omega) (by omega) (j := 486) rfl (v := (s0 (gP G a 27) 486)) (by rw [e_s1, zU_at (Or.inr (by omega))]) dX12_pools_26 ?_
  refine j_iconst hx dX12_pools_27 ?_
  refine j_iadd hx (r := (s0 (gP G a 27) 486) + 1) dX12_pools_28 (by omega) ?_
  refine j_iast hx hG (zr (k := 27) (t2 := 84) hG ha rfl) (by decide) rfl (zlen hG (zr (k := 27) (t2 := 84) hG ha rfl) (n := 515) rfl rfl) (by omega) (by omega) (j := 486) rfl dX12_pools_29 ?_
  obtain ⟨s2, e_s2⟩ : ∃ z, z = zU s1 (gP G a 27) 486 ((s0 (gP G a 27) 486) + 1) := ⟨_, rfl⟩
  rw [← e_s2]
  have hS_s2 : zSK G s2 := by rw [e_s2]; exact zSK_a hS_s1 (zr (k := 27) (t2 := 84) hG ha rfl) rfl rfl (congrArg some (axS_2 486 (by omega))) (by omega)
  have g5 : s1 (gP G a 27) 486 = s0 (gP G a 27) 486 := (by rw [e_s1, zU_at (Or.inr (by omega))])
  have g6 : s2 (gP G a 27) 486 = (s0 (gP G a 27) 486) + 1 := (by rw [e_s2, zU_eq])
  have z4 : zc (s2 (gP G a 27)) = zc (s1 (gP G a 27)) - s1 (gP G a 27) 486 + s2 (gP G a 27) 486 := by rw [e_s2, zU_eq]; exact zc_w (by omega) (by omega)
  have g7 : s2 (gP G a 27) 488 = s0 (gP G a 27) 488 := (by rw [e_s2, zU_at (Or.inr (by decide)), e_s1, zU_at (Or.inr (by omega))])
  exact j_vret hx hq rfl (by decide) (by decide) dX12_pools_30 ⟨rfl, rfl, hS_s2, (zFr_u (zFr_u zFr_rf e_s1 (zr (k := 27) (t2 := 84) hG ha rfl) (by decide)) e_s2 (zr (k := 27) (t2 := 84) hG ha rfl) (by decide)), ⟨by omega, by omega⟩⟩

theorem lk_RX12_381 : LkV RX12 381 RX12 yX12_pools cX12_pools 2 none 1 := ⟨km_RX12_381, ki_yX12_pools, ks_RX12_yX12_pools, kn_RX12, kc_yX12_pools, rfl, by decide +kernel, by decide +kernel, by decide +kernel⟩
set_option maxHeartbeats 1200000 in
set_option maxRecDepth 20000 in
theorem c_X12_falls {E : zE} {l : Launch} (hst : l.stackTraces = false) (a : Nat) (x1 : Int) : Con E l yX12_falls cX12_falls 4 none { frames := 3, cells := 0, slots := 0, locals := 70 } (fun G s vs => vs = [.ref a, .int (zI x1)] ∧ zGK G ∧ zSK G s ∧ (gT G a = 13) ∧ (0 ≤ x1 ∧ x1 ≤ 2) ∧ (zc (s (gP G a 27)) ≤ 60)) (fun G s _ => pV (fun G2 s2 => G2 = G ∧ zSK G s2 ∧ zFr [84] G s s2 ∧ zc (s2 (gP G a 27)) = zc (s (gP G a 27)) ∧ s2 (gP G a 27) 488 = s (gP G a 27) 488)) := by
  refine Con.mk hst (by decide) (fun G s vs h => by rw [h.1]; exact Nat.le_of_ble_eq_true rfl) ?_
  rintro X G s0 vs ⟨rfl, hG, hS0, ha, hx1, e0⟩ rfl hx hq
  show JJ X E 4 G s0 0 0 [(0, .ref a), (1, .int (zI x1))] 0 []
  refine j_aload_n hx 0 dX12_falls_0 rfl ?_
  refine g13_27 hx hG ha kf_RX12_56 dX12_falls_1 ?_
  refine j_sipush hx dX12_falls_4 rfl ?_
  have f1 := zaQ (j := 491) hS0 (zr (k := 27) (t2 := 84) hG ha rfl) (congrArg some (axS_7 491 (by omega))) (zlen hG (zr (k := 27) (t2 := 84) hG ha rfl) (n := 515) rfl rfl) (show 0 ≤ 491 by omega) (by omega) rfl
  refine j_iald hx hG (zr (k := 27) (t2 := 84) hG ha rfl) (by decide) rfl (zlen hG (zr (k := 27) (t2 := 84) hG ha rfl) (n := 515) rfl rfl) (by omega) (by omega) (j := 491) rfl rfl dX12_falls_7 ?_
  refine j_istore_n hx [(2, .int (zI ((s0 (gP G a 27) 491)))), (0, .ref a), (1, .int (zI x1))] dX12_falls_8 (by decide) rfl ?_
  refine j_iload_n hx 0 dX12_falls_9 rfl ?_
  refine j_if_ne hx 38 dX12_falls_10 rfl (by omega) (fun h2 => ?_) (fun h2 => ?_)
  · skip
    refine j_iload_n hx 0 dX12_falls_38 rfl ?_
    refine j_iconst hx dX12_falls_39 ?_
    have c68_1 : JJ X E 4 G s0 0 0 [(0, .ref a), (1, .int (zI x1)), (2, .int (zI ((s0 (gP G a 27) 491))))] 68 [] := by
      refine j_iload_n hx 2 dX12_falls_68 rfl ?_
      refine j_iconst hx dX12_falls_69 ?_
      refine j_icmp_ne hx 128 dX12_falls_70 rfl (by omega) ⟨by decide, by decide⟩ (fun h3 => ?_) (fun h3 => ?_)
      · skip
        exact j_vret hx hq rfl (by decide) (by decide) dX12_falls_128 ⟨rfl, rfl, hS0, zFr_rf, ⟨by omega, by omega⟩⟩
      · skip
        refine j_aload_n hx 0 dX12_falls_73 rfl ?_
        refine g13_27 hx hG ha kf_RX12_56 dX12_falls_74 ?_
        refine j_sipush hx dX12_falls_77 rfl ?_
        refine j_iload_n hx 1 dX12_falls_80 rfl ?_
        refine j_iadd hx (r := x1 + 483) dX12_falls_81 (by omega) ?_
        have f4 := zaQ (j := (x1 + 483).toNat) hS0 (zr (k := 27) (t2 := 84) hG ha rfl) (congrArg some (axS_2 (x1 + 483).toNat (by omega))) (zlen hG (zr (k := 27) (t2 := 84) hG ha rfl) (n := 515) rfl rfl) (show 0 ≤ x1 + 483 by omega) (by omega) rfl
        have c5 := zc_1 (j := (x1 + 483).toNat) hS0 (zr (k := 27) (t2 := 84) hG ha rfl) (zn hG (zr (k := 27) (t2 := 84) hG ha rfl) rfl) (by omega) (by omega)
        refine j_iald hx hG (zr (k := 27) (t2 := 84) hG ha rfl) (by decide) rfl (zlen hG (zr (k := 27) (t2 := 84) hG ha rfl) (n := 515) rfl rfl) (by omega) (by omega) (j := (x1 + 483).toNat) rfl rfl dX12_falls_82 ?_
        refine j_if_le hx 128 dX12_falls_83 rfl (by omega) (fun h6 => ?_) (fun h6 => ?_)
        · skip
          exact j_vret hx hq rfl (by decide) (by decide) dX12_falls_128 ⟨rfl, rfl, hS0, zFr_rf, ⟨by omega, by omega⟩⟩
        · skip
          refine j_aload_n hx 0 dX12_falls_86 rfl ?_
          refine g13_27 hx hG ha kf_RX12_56 dX12_falls_87 ?_
          refine j_sipush hx dX12_falls_90 rfl ?_
          refine j_iload_n hx 1 dX12_falls_93 rfl ?_
          refine j_iadd hx (r := x1 + 483) dX12_falls_94 (by omega) ?_
          refine j_dup2 hx dX12_falls_95 rfl rfl ?_
          refine j_iald hx hG (zr (k := 27) (t2 := 84) hG ha rfl) (by decide) rfl (zlen hG (zr (k := 27) (t2 := 84) hG ha rfl) (n := 515) rfl rfl) (by omega) (by omega) (j := (x1 + 483).toNat) rfl rfl dX12_falls_96 ?_
          refine j_iconst hx dX12_falls_97 ?_
          refine j_isub hx (r := (s0 (gP G a 27) (x1 + 483).toNat) - 1) dX12_falls_98 (by omega) ?_
          refine j_iast hx hG (zr (k := 27) (t2 := 84) hG ha rfl) (by decide) rfl (zlen hG (zr (k := 27) (t2 := 84) hG ha rfl) (n := 515) rfl rfl) (by omega) (by omega) (j := (x1 + 483).toNat) rfl dX12_falls_99 ?_
          obtain ⟨s2, e_s2⟩ : ∃ z, z = zU s0 (gP G a 27) (x1 + 483).toNat ((s0 (gP G a 27) (x1 + 483).toNat) - 1) := ⟨_, rfl⟩
          rw [← e_s2]
          have hS_s2 : zSK G s2 := by rw [e_s2]; exact zSK_a hS0 (zr (k := 27) (t2 := 84) hG ha rfl) rfl rfl (congrArg some (axS_2 (x1 + 483).toNat (by omega))) (by omega)
          have g8 : s2 (gP G a 27) (x1 + 483).toNat = (s0 (gP G a 27) (x1 + 483).toNat) - 1 := (by rw [e_s2, zU_eq])
          have z7 : zc (s2 (gP G a 27)) = zc (s0 (gP G a 27)) - s0 (gP G a 27) (x1 + 483).toNat + s2 (gP G a 27) (x1 + 483).toNat := by rw [e_s2, zU_eq]; exact zc_w (by omega) (by omega)
          refine j_aload_n hx 0 dX12_falls_100 rfl ?_
          refine j_aload_n hx 0 dX12_falls_101 rfl ?_
          refine g13_27 hx hG ha kf_RX12_56 dX12_falls_102 ?_
          refine j_sipush hx dX12_falls_105 rfl ?_
          refine j_bipush hx dX12_falls_108 rfl ?_
          refine j_iload_n hx 1 dX12_falls_110 rfl ?_
          refine j_imul hx (r := 60 * x1) dX12_falls_111 rfl ?_
          refine j_iadd hx (r := 60 * x1 + 180) dX12_falls_112 (by omega) ?_
          refine j_aload_n hx 0 dX12_falls_113 rfl ?_
          refine g13_27 hx hG ha kf_RX12_56 dX12_falls_114 ?_
          refine j_sipush hx dX12_falls_117 rfl ?_
          refine j_iload_n hx 1 dX12_falls_120 rfl ?_
          refine j_iadd hx (r := x1 + 483) dX12_falls_121 (by omega) ?_
          refine j_iald hx hG (zr (k := 27) (t2 := 84) hG ha rfl) (by decide) rfl (zlen hG (zr (k := 27) (t2 := 84) hG ha rfl) (n := 515) rfl rfl) (by omega) (by omega) (j := (x1 + 483).toNat) rfl (v := (s0 (gP G a 27) (x1 + 483).toNat) - 1) (by rw [e_s2, zU_eq]) dX12_falls_122 ?_
          refine j_iadd hx (r := 60 * x1 + (s0 (gP G a 27) (x1 + 483).toNat) + 179) dX12_falls_123 (by omega) ?_
          have f9 := zaQ (j := (60 * x1 + (s0 (gP G a 27) (x1 + 483).toNat) + 179).toNat) hS0 (zr (k := 27) (t2 := 84) hG ha rfl) (congrArg some (axS_0 (60 * x1 + (s0 (gP G a 27) (x1 + 483).toNat) + 179).toNat (by omega))) (zlen hG (zr (k := 27) (t2 := 84) hG ha rfl) (n := 515) rfl rfl) (show 0 ≤ 60 * x1 + (s0 (gP G a 27) (x1 + 483).toNat) + 179 by omega) (by omega) rfl
          refine j_iald hx hG (zr (k := 27) (t2 := 84) hG ha rfl) (by decide) rfl (zlen hG (zr (k := 27) (t2 := 84) hG ha rfl) (n := 515) rfl rfl) (by omega) (by omega) (j := (60 * x1 + (s0 (gP G a 27) (x1 + 483).toNat) + 179).toNat) rfl (v := (s0 (gP G a 27) (60 * x1 + (s0 (gP G a 27) (x1 + 483).toNat) + 179).toNat)) (by rw [e_s2, zU_at (Or.inr (by omega))]) dX12_falls_124 ?_
          have g10 : s2 (gP G a 27) 488 = s0 (gP G a 27) 488 := (by rw [e_s2, zU_at (Or.inr (by omega))])
          refine j_callV hx hG (c_X12_pools hst a ((s0 (gP G a 27) (60 * x1 + (s0 (gP G a 27) (x1 + 483).toNat) + 179).toNat))) lk_RX12_381 ha (by decide) rfl rfl rfl rfl [.int (zI ((s0 (gP G a 27) (60 * x1 + (s0 (gP G a 27) (x1 + 483).toNat) + 179).toNat)))] ⟨rfl, hG, hS_s2, ha, (by omega), (by omega)⟩ rfl rfl ⟨by decide, by decide⟩ ⟨by decide, by decide⟩ (k2 := 0) (n2 := 0) rfl rfl (Nat.le_of_ble_eq_true rfl) dX12_falls_125 (kVM (fun s3 hS_s3 hF_s3 q12 => ?_))
          exact j_vret hx hq rfl (by decide) (by decide) dX12_falls_128 ⟨rfl, rfl, hS_s3, (zFr_t (zFr_u zFr_rf e_s2 (zr (k := 27) (t2 := 84) hG ha rfl) (by decide)) hF_s3 (by decide)), ⟨by omega, by omega⟩⟩
    refine j_icmp_ne hx 68 dX12_falls_40 rfl (by omega) ⟨by decide, by decide⟩ (fun h13 => ?_) (fun h13 => ?_)
    · skip
      exact j_sub [1, 2, 0] [(0, .ref a), (1, .int (zI x1)), (2, .int (zI ((s0 (gP G a 27) 491))))] rfl (c68_1  )
    · skip
      refine j_aload_n hx 1 dX12_falls_43 rfl ?_
      refine g13_27 hx hG ha kf_RX12_56 dX12_falls_44 ?_
      refine j_sipush hx dX12_falls_47 rfl ?_
      refine j_iload_n hx 2 dX12_falls_50 rfl ?_
      refine j_iadd hx (r := x1 + 480) dX12_falls_51 (by omega) ?_
      have f14 := zaQ (j := (x1 + 480).toNat) hS0 (zr (k := 27) (t2 := 84) hG ha rfl) (congrArg some (axS_2 (x1 + 480).toNat (by omega))) (zlen hG (zr (k := 27) (t2 := 84) hG ha rfl) (n := 515) rfl rfl) (show 0 ≤ x1 + 480 by omega) (by omega) rfl
      have c15 := zc_1 (j := (x1 + 480).toNat) hS0 (zr (k := 27) (t2 := 84) hG ha rfl) (zn hG (zr (k := 27) (t2 := 84) hG ha rfl) rfl) (by omega) (by omega)
      refine j_iald hx hG (zr (k := 27) (t2 := 84) hG ha rfl) (by decide) rfl (zlen hG (zr (k := 27) (t2 := 84) hG ha rfl) (n := 515) rfl rfl) (by omega) (by omega) (j := (x1 + 480).toNat) rfl rfl dX12_falls_52 ?_
      refine j_if_le hx 68 dX12_falls_53 rfl (by omega) (fun h16 => ?_) (fun h16 => ?_)
      · skip
        exact j_sub [1, 2, 0] [(0, .ref a), (1, .int (zI x1)), (2, .int (zI ((s0 (gP G a 27) 491))))] rfl (c68_1  )
      · skip
        refine j_aload_n hx 1 dX12_falls_56 rfl ?_
        refine j_aload_n hx 1 dX12_falls_57 rfl ?_
        refine j_iload_n hx 2 dX12_falls_58 rfl ?_
        refine j_callV hx hG (c_X12_takesFirst hst a x1) lk_RX12_371 ha (by decide) rfl rfl rfl rfl [.int (zI x1)] ⟨rfl, hG, hS0, ha, (by omega), (by omega), (by omega)⟩ rfl rfl ⟨by decide, by decide⟩ ⟨by decide, by decide⟩ (k2 := 0) (n2 := 0) rfl rfl (Nat.le_of_ble_eq_true rfl) dX12_falls_59 (kIM (fun v17 s4 hS_s4 hF_s4 q18 => ?_))
        refine j_callV hx hG (c_X12_pools hst a v17) lk_RX12_381 ha (by decide) rfl rfl rfl rfl [.int (zI v17)] ⟨rfl, hG, hS_s4, ha, (by omega), (by omega)⟩ rfl rfl ⟨by decide, by decide⟩ ⟨by decide, by decide⟩ (k2 := 0) (n2 := 0) rfl rfl (Nat.le_of_ble_eq_true rfl) dX12_falls_62 (kVM (fun s5 hS_s5 hF_s5 q20 => ?_))
        refine j_goto hx 128 dX12_falls_65 rfl ?_
        exact j_vret hx hq rfl (by decide) (by decide) dX12_falls_128 ⟨rfl, rfl, hS_s5, (zFr_t (zFr_t zFr_rf hF_s4 (by decide)) hF_s5 (by decide)), ⟨by omega, by omega⟩⟩
  · skip
    refine j_aload_n hx 1 dX12_falls_13 rfl ?_
    refine j_iload_n hx 2 dX12_falls_14 rfl ?_
    refine j_callV hx hG (c_X12_next hst a x1) lk_RX12_331 ha (by decide) rfl rfl rfl rfl [.int (zI x1)] ⟨rfl, hG, hS0, ha, (by omega)⟩ rfl rfl ⟨by decide, by decide⟩ ⟨by decide, by decide⟩ (k2 := 0) (n2 := 0) rfl rfl (Nat.le_of_ble_eq_true rfl) dX12_falls_15 (kIP (fun v21 q22 => ?_))
    refine j_istore_n hx [(3, .int (zI v21)), (2, .int (zI ((s0 (gP G a 27) 491)))), (0, .ref a), (1, .int (zI x1))] dX12_falls_18 (by decide) rfl ?_
    refine j_iload_n hx 0 dX12_falls_19 rfl ?_
    refine j_iconst hx dX12_falls_20 ?_
    refine j_icmp_eq hx 35 dX12_falls_21 rfl (by omega) ⟨by decide, by decide⟩ (fun h23 => ?_) (fun h23 => ?_)
    · skip
      refine j_goto hx 128 dX12_falls_35 rfl ?_
      exact j_vret hx hq rfl (by decide) (by decide) dX12_falls_128 ⟨rfl, rfl, hS0, zFr_rf, ⟨by omega, by omega⟩⟩
    · skip
      refine j_iload_n hx 0 dX12_falls_24 rfl ?_
      refine j_iload_n hx 3 dX12_falls_25 rfl ?_
      refine j_icmp_eq hx 35 dX12_falls_26 rfl (by omega) (by omega) (fun h24 => ?_) (fun h24 => ?_)
      · skip
        refine j_goto hx 128 dX12_falls_35 rfl ?_
        exact j_vret hx hq rfl (by decide) (by decide) dX12_falls_128 ⟨rfl, rfl, hS0, zFr_rf, ⟨by omega, by omega⟩⟩
      · skip
        refine j_aload_n hx 2 dX12_falls_29 rfl ?_
        refine j_iload_n hx 3 dX12_falls_30 rfl ?_
        refine j_iload_n hx 0 dX12_falls_31 rfl ?_
        refine j_callV hx hG (c_X12_comesToRow hst a x1 v21) lk_RX12_368 ha (by decide) rfl rfl rfl rfl [.int (zI x1), .int (zI v21)] ⟨rfl, hG, hS0, ha, (by omega), (by omega), (by omega)⟩ rfl rfl ⟨by decide, by decide⟩ ⟨by decide, by decide⟩ (k2 := 0) (n2 := 0) rfl rfl (Nat.le_of_ble_eq_true rfl) dX12_falls_32 (kVM (fun s6 hS_s6 hF_s6 q26 => ?_))
        refine j_goto hx 128 dX12_falls_35 rfl ?_
        exact j_vret hx hq rfl (by decide) (by decide) dX12_falls_128 ⟨rfl, rfl, hS_s6, (zFr_t zFr_rf hF_s6 (by decide)), ⟨by omega, by omega⟩⟩

set_option maxHeartbeats 1200000 in
set_option maxRecDepth 20000 in
theorem c_X12_wins {E : zE} {l : Launch} (hst : l.stackTraces = false) (a : Nat) (x1 : Int) (x2 : Int) : Con E l yX12_wins cX12_wins 6 (some .int) { frames := 3, cells := 0, slots := 0, locals := 70 } (fun G s vs => vs = [.ref a, .int (zI x1), .int (zI x2)] ∧ zGK G ∧ zSK G s ∧ (gT G a = 13) ∧ (0 ≤ x1 ∧ x1 ≤ 2) ∧ (1 ≤ x2 ∧ x2 ≤ 12) ∧ ((x2 = 1 ∨ x2 = 2 ∨ x2 = 12)) ∧ (zc (s (gP G a 27)) ≤ 60)) (fun G s _ => pI (fun r G2 s2 => G2 = G ∧ zSK G s2 ∧ zFr [84] G s s2 ∧ (0 ≤ r ∧ r ≤ 180) ∧ zc (s2 (gP G a 27)) = zc (s (gP G a 27)) ∧ s2 (gP G a 27) 488 = s (gP G a 27) 488)) := by
  refine Con.mk hst (by decide) (fun G s vs h => by rw [h.1]; exact Nat.le_of_ble_eq_true rfl) ?_
  rintro X G s0 vs ⟨rfl, hG, hS0, ha, hx1, hx2, e0, e1⟩ rfl hx hq
  show JJ X E 6 G s0 0 0 [(0, .ref a), (1, .int (zI x1)), (2, .int (zI x2))] 0 []
  rcases (show x2 = 1 ∨ x2 = 2 ∨ x2 = 12 by omega) with rfl | rfl | rfl
  · skip
    refine j_aload_n hx 0 dX12_wins_0 rfl ?_
    refine j_iload_n hx 2 dX12_wins_1 rfl ?_
    refine j_bipush hx dX12_wins_2 rfl ?_
    refine j_idiv hx dX12_wins_4 ⟨by decide, by decide⟩ ⟨by decide, by decide⟩ (by decide) (fun v1 f2 f3 f4 => ?_)
    refine j_callV hx hG (c_X12_top hst a v1) lk_RX12_334 ha (by decide) rfl rfl rfl rfl [.int (zI v1)] ⟨rfl, hG, hS0, ha, (by omega)⟩ rfl rfl ⟨by decide, by decide⟩ ⟨by decide, by decide⟩ (k2 := 0) (n2 := 0) rfl rfl (Nat.le_of_ble_eq_true rfl) dX12_wins_5 (kIP (fun v7 q8 => ?_))
    refine j_istore_n hx [(3, .int (zI v7)), (0, .ref a), (1, .int (zI x1)), (2, .int (zI 1))] dX12_wins_8 (by decide) rfl ?_
    refine j_aload_n hx 1 dX12_wins_9 rfl ?_
    refine g13_27 hx hG ha kf_RX12_56 dX12_wins_10 ?_
    refine j_sipush hx dX12_wins_13 rfl ?_
    refine j_iload_n hx 3 dX12_wins_16 rfl ?_
    refine j_bipush hx dX12_wins_17 rfl ?_
    refine j_idiv hx dX12_wins_19 ⟨by decide, by decide⟩ ⟨by decide, by decide⟩ (by decide) (fun v9 f10 f11 f12 => ?_)
    refine j_iadd hx (r := v9 + 483) dX12_wins_20 (by omega) ?_
    have f15 := zaQ (j := (v9 + 483).toNat) hS0 (zr (k := 27) (t2 := 84) hG ha rfl) (congrArg some (axS_2 (v9 + 483).toNat (by omega))) (zlen hG (zr (k := 27) (t2 := 84) hG ha rfl) (n := 515) rfl rfl) (show 0 ≤ v9 + 483 by omega) (by omega) rfl
    have c16 := zc_1 (j := (v9 + 483).toNat) hS0 (zr (k := 27) (t2 := 84) hG ha rfl) (zn hG (zr (k := 27) (t2 := 84) hG ha rfl) rfl) (by omega) (by omega)
    refine j_iald hx hG (zr (k := 27) (t2 := 84) hG ha rfl) (by decide) rfl (zlen hG (zr (k := 27) (t2 := 84) hG ha rfl) (n := 515) rfl rfl) (by omega) (by omega) (j := (v9 + 483).toNat) rfl rfl dX12_wins_21 ?_
    refine j_aload_n hx 1 dX12_wins_22 rfl ?_
    refine g13_27 hx hG ha kf_RX12_56 dX12_wins_23 ?_
    refine j_sipush hx dX12_wins_26 rfl ?_
    refine j_iload_n hx 3 dX12_wins_29 rfl ?_
    refine j_bipush hx dX12_wins_30 rfl ?_
    refine j_irem hx dX12_wins_32 ⟨by decide, by decide⟩ ⟨by decide, by decide⟩ (by decide) (fun v17 f18 f19 f20 f21 => ?_)
    refine j_iadd hx (r := v17 + 483) dX12_wins_33 (by omega) ?_
    have f23 := zah (j := (v17 + 483).toNat) hS0 (zr (k := 27) (t2 := 84) hG ha rfl) (fun k => ⟨_, rfl, (axS_h _).1, (axS_h _).2.1⟩) (zlen hG (zr (k := 27) (t2 := 84) hG ha rfl) (n := 515) rfl rfl) (show 0 ≤ v17 + 483 by omega) (by omega) rfl
    refine j_iald hx hG (zr (k := 27) (t2 := 84) hG ha rfl) (by decide) rfl (zlen hG (zr (k := 27) (t2 := 84) hG ha rfl) (n := 515) rfl rfl) (by omega) (by omega) (j := (v17 + 483).toNat) rfl rfl dX12_wins_34 ?_
    refine j_iadd hx (r := (s0 (gP G a 27) (v9 + 483).toNat) + (s0 (gP G a 27) (v17 + 483).toNat)) dX12_wins_35 (by omega) ?_
    refine j_norm (fun v24 f25 f26 f27 => ?_)
    refine j_istore hx [(4, .int (zI v24)), (3, .int (zI v7)), (0, .ref a), (1, .int (zI x1)), (2, .int (zI 1))] dX12_wins_36 (by decide) rfl ?_
    refine j_aload_n hx 2 dX12_wins_38 rfl ?_
    refine j_iload_n hx 4 dX12_wins_39 rfl ?_
    refine j_bipush hx dX12_wins_40 rfl ?_
    refine j_idiv hx dX12_wins_42 ⟨by decide, by decide⟩ ⟨by decide, by decide⟩ (by decide) (fun v28 f29 f30 f31 => ?_)
    refine j_iload_n hx 3 dX12_wins_43 rfl ?_
    refine j_callV hx hG (c_X12_comesToRow hst a v28 x1) lk_RX12_368 ha (by decide) rfl rfl rfl rfl [.int (zI v28), .int (zI x1)] ⟨rfl, hG, hS0, ha, (by omega), (by omega), (by omega)⟩ rfl rfl ⟨by decide, by decide⟩ ⟨by decide, by decide⟩ (k2 := 0) (n2 := 0) rfl rfl (Nat.le_of_ble_eq_true rfl) dX12_wins_44 (kVM (fun s1 hS_s1 hF_s1 q35 => ?_))
    refine j_aload_n hx 2 dX12_wins_47 rfl ?_
    refine j_iload_n hx 4 dX12_wins_48 rfl ?_
    refine j_bipush hx dX12_wins_49 rfl ?_
    refine j_irem hx dX12_wins_51 ⟨by decide, by decide⟩ ⟨by decide, by decide⟩ (by decide) (fun v36 f37 f38 f39 f40 => ?_)
    refine j_iload_n hx 3 dX12_wins_52 rfl ?_
    refine j_callV hx hG (c_X12_comesToRow hst a v36 x1) lk_RX12_368 ha (by decide) rfl rfl rfl rfl [.int (zI v36), .int (zI x1)] ⟨rfl, hG, hS_s1, ha, (by omega), (by omega), (by omega)⟩ rfl rfl ⟨by decide, by decide⟩ ⟨by decide, by decide⟩ (k2 := 0) (n2 := 0) rfl rfl (Nat.le_of_ble_eq_true rfl) dX12_wins_53 (kVM (fun s2 hS_s2 hF_s2 q43 => ?_))
    refine j_aload_n hx 2 dX12_wins_56 rfl ?_
    refine g13_27 hx hG ha kf_RX12_56 dX12_wins_57 ?_
    refine j_sipush hx dX12_wins_60 rfl ?_
    have f44 := zaQ (j := 486) hS_s2 (zr (k := 27) (t2 := 84) hG ha rfl) (congrArg some (axS_2 486 (by omega))) (zlen hG (zr (k := 27) (t2 := 84) hG ha rfl) (n := 515) rfl rfl) (show 0 ≤ 486 by omega) (by omega) rfl
    have c45 := zc_1 (j := 486) hS_s2 (zr (k := 27) (t2 := 84) hG ha rfl) (zn hG (zr (k := 27) (t2 := 84) hG ha rfl) rfl) (by omega) (by omega)
    refine j_iald hx hG (zr (k := 27) (t2 := 84) hG ha rfl) (by decide) rfl (zlen hG (zr (k := 27) (t2 := 84) hG ha rfl) (n := 515) rfl rfl) (by omega) (by omega) (j := 486) rfl rfl dX12_wins_63 ?_
    have c124_3 : ∀ (v46 : Int), (0 ≤ v46 ∧ v46 ≤ 1) → JJ X E 6 G s2 0 0 [(0, .ref a), (1, .int (zI x1)), (4, .int (zI v24))] 124 [.int (zI v46)] := by
      intro v46 fA4
      refine j_istore hx [(5, .int (zI v46)), (0, .ref a), (1, .int (zI x1)), (4, .int (zI v24))] dX12_wins_124 (by decide) rfl ?_
      refine j_iload hx 0 dX12_wins_126 rfl ?_
      refine j_if_ne hx 134 dX12_wins_128 rfl (by omega) (fun h47 => ?_) (fun h47 => ?_)
      · skip
        refine j_iload hx 3 dX12_wins_134 rfl ?_
        refine j_aload_n hx 1 dX12_wins_136 rfl ?_
        refine g13_27 hx hG ha kf_RX12_56 dX12_wins_137 ?_
        refine j_sipush hx dX12_wins_140 rfl ?_
        refine j_iald hx hG (zr (k := 27) (t2 := 84) hG ha rfl) (by decide) rfl (zlen hG (zr (k := 27) (t2 := 84) hG ha rfl) (n := 515) rfl rfl) (by omega) (by omega) (j := 486) rfl rfl dX12_wins_143 ?_
        refine j_iadd hx (r := v24 + (s2 (gP G a 27) 486)) dX12_wins_144 (by omega) ?_
        refine j_norm (fun v48 f49 f50 f51 => ?_)
        refine j_istore hx [(4, .int (zI v48)), (5, .int (zI v46)), (0, .ref a), (1, .int (zI x1))] dX12_wins_145 (by decide) rfl ?_
        refine j_aload_n hx 2 dX12_wins_147 rfl ?_
        refine j_sipush hx dX12_wins_148 rfl ?_
        refine j_sipush hx dX12_wins_151 rfl ?_
        refine j_iconst hx dX12_wins_154 ?_
        refine j_bipush hx dX12_wins_155 rfl ?_
        refine j_iload_n hx 3 dX12_wins_157 rfl ?_
        refine j_imul hx (r := 60 * x1) dX12_wins_158 rfl ?_
        refine j_iadd hx (r := 60 * x1) dX12_wins_159 (by omega) ?_
        refine j_sipush hx dX12_wins_160 rfl ?_
        refine j_iload_n hx 3 dX12_wins_163 rfl ?_
        refine j_iadd hx (r := x1 + 480) dX12_wins_164 (by omega) ?_
        refine j_callV hx hG (c_X12_take hst a 360 486 (60 * x1) (x1 + 480)) lk_RX12_361 ha (by decide) rfl rfl rfl rfl [.int (zI 360), .int (zI 486), .int (zI (60 * x1)), .int (zI (x1 + 480))] ⟨rfl, hG, hS_s2, ha, (by omega), (by omega), (by omega), (by omega), (by omega), (by omega)⟩ rfl rfl ⟨by decide, by decide⟩ ⟨by decide, by decide⟩ (k2 := 0) (n2 := 0) rfl rfl (Nat.le_of_ble_eq_true rfl) dX12_wins_165 (kVM (fun s5 hS_s5 hF_s5 q53 => ?_))
        refine j_aload_n hx 2 dX12_wins_168 rfl ?_
        refine g13_27 hx hG ha kf_RX12_56 dX12_wins_169 ?_
        refine j_sipush hx dX12_wins_172 rfl ?_
        refine j_iload_n hx 3 dX12_wins_175 rfl ?_
        refine j_iadd hx (r := x1 + 480) dX12_wins_176 (by omega) ?_
        refine j_dup2 hx dX12_wins_177 rfl rfl ?_
        have f54 := zaQ (j := (x1 + 480).toNat) hS_s5 (zr (k := 27) (t2 := 84) hG ha rfl) (congrArg some (axS_2 (x1 + 480).toNat (by omega))) (zlen hG (zr (k := 27) (t2 := 84) hG ha rfl) (n := 515) rfl rfl) (show 0 ≤ x1 + 480 by omega) (by omega) rfl
        have c55 := zc_1 (j := (x1 + 480).toNat) hS_s5 (zr (k := 27) (t2 := 84) hG ha rfl) (zn hG (zr (k := 27) (t2 := 84) hG ha rfl) rfl) (by omega) (by omega)
        refine j_iald hx hG (zr (k := 27) (t2 := 84) hG ha rfl) (by decide) rfl (zlen hG (zr (k := 27) (t2 := 84) hG ha rfl) (n := 515) rfl rfl) (by omega) (by omega) (j := (x1 + 480).toNat) rfl rfl dX12_wins_178 ?_
        refine j_aload_n hx 2 dX12_wins_179 rfl ?_
        refine g13_27 hx hG ha kf_RX12_56 dX12_wins_180 ?_
        refine j_sipush hx dX12_wins_183 rfl ?_
        have f56 := zaQ (j := 486) hS_s5 (zr (k := 27) (t2 := 84) hG ha rfl) (congrArg some (axS_2 486 (by omega))) (zlen hG (zr (k := 27) (t2 := 84) hG ha rfl) (n := 515) rfl rfl) (show 0 ≤ 486 by omega) (by omega) rfl
        have c57 := zc_1 (j := 486) hS_s5 (zr (k := 27) (t2 := 84) hG ha rfl) (zn hG (zr (k := 27) (t2 := 84) hG ha rfl) rfl) (by omega) (by omega)
        have c58 : (x1 + 480).toNat ≠ 486 → s5 (gP G a 27) (x1 + 480).toNat + s5 (gP G a 27) 486 ≤ zc (s5 (gP G a 27)) := fun e => zc_2 hS_s5 (zr (k := 27) (t2 := 84) hG ha rfl) (zn hG (zr (k := 27) (t2 := 84) hG ha rfl) rfl) (by omega) (by omega) (by omega) (by omega) e
        refine j_iald hx hG (zr (k := 27) (t2 := 84) hG ha rfl) (by decide) rfl (zlen hG (zr (k := 27) (t2 := 84) hG ha rfl) (n := 515) rfl rfl) (by omega) (by omega) (j := 486) rfl rfl dX12_wins_186 ?_
        refine j_iadd hx (r := (s5 (gP G a 27) (x1 + 480).toNat) + (s5 (gP G a 27) 486)) dX12_wins_187 (by omega) ?_
        refine j_iast hx hG (zr (k := 27) (t2 := 84) hG ha rfl) (by decide) rfl (zlen hG (zr (k := 27) (t2 := 84) hG ha rfl) (n := 515) rfl rfl) (by omega) (by omega) (j := (x1 + 480).toNat) rfl dX12_wins_188 ?_
        obtain ⟨s6, e_s6⟩ : ∃ z, z = zU s5 (gP G a 27) (x1 + 480).toNat ((s5 (gP G a 27) (x1 + 480).toNat) + (s5 (gP G a 27) 486)) := ⟨_, rfl⟩
        rw [← e_s6]
        have hS_s6 : zSK G s6 := by rw [e_s6]; exact zSK_a hS_s5 (zr (k := 27) (t2 := 84) hG ha rfl) rfl rfl (congrArg some (axS_2 (x1 + 480).toNat (by omega))) (by omega)
        have g60 : s6 (gP G a 27) (x1 + 480).toNat = (s5 (gP G a 27) (x1 + 480).toNat) + (s5 (gP G a 27) 486) := (by rw [e_s6, zU_eq])
        have z59 : zc (s6 (gP G a 27)) = zc (s5 (gP G a 27)) - s5 (gP G a 27) (x1 + 480).toNat + s6 (gP G a 27) (x1 + 480).toNat := by rw [e_s6, zU_eq]; exact zc_w (by omega) (by omega)
        refine j_aload_n hx 2 dX12_wins_189 rfl ?_
        refine g13_27 hx hG ha kf_RX12_56 dX12_wins_190 ?_
        refine j_sipush hx dX12_wins_193 rfl ?_
        refine j_iconst hx dX12_wins_196 ?_
        refine j_iast hx hG (zr (k := 27) (t2 := 84) hG ha rfl) (by decide) rfl (zlen hG (zr (k := 27) (t2 := 84) hG ha rfl) (n := 515) rfl rfl) (by omega) (by omega) (j := 486) rfl dX12_wins_197 ?_
        obtain ⟨s7, e_s7⟩ : ∃ z, z = zU s6 (gP G a 27) 486 0 := ⟨_, rfl⟩
        rw [← e_s7]
        have hS_s7 : zSK G s7 := by rw [e_s7]; exact zSK_a hS_s6 (zr (k := 27) (t2 := 84) hG ha rfl) rfl rfl (congrArg some (axS_2 486 (by omega))) (by omega)
        have g62 : s6 (gP G a 27) 486 = s5 (gP G a 27) 486 := (by rw [e_s6, zU_at (Or.inr (by omega))])
        have g63 : s7 (gP G a 27) 486 = 0 := (by rw [e_s7, zU_eq])
        have z61 : zc (s7 (gP G a 27)) = zc (s6 (gP G a 27)) - s6 (gP G a 27) 486 + s7 (gP G a 27) 486 := by rw [e_s7, zU_eq]; exact zc_w (by omega) (by omega)
        refine j_iload hx 0 dX12_wins_198 rfl ?_
        have g64 : s7 (gP G a 27) 488 = s5 (gP G a 27) 488 := (by rw [e_s7, zU_at (Or.inr (by decide)), e_s6, zU_at (Or.inr (by omega))])
        exact j_iret hx hq rfl (by decide) (by decide) dX12_wins_200 ⟨v48, rfl, rfl, hS_s7, (zFr_u (zFr_u (zFr_t (zFr_t (zFr_t zFr_rf hF_s1 (by decide)) hF_s2 (by decide)) hF_s5 (by decide)) e_s6 (zr (k := 27) (t2 := 84) hG ha rfl) (by decide)) e_s7 (zr (k := 27) (t2 := 84) hG ha rfl) (by decide)), ⟨(by omega), by omega, by omega⟩⟩
      · skip
        refine j_iload hx 3 dX12_wins_131 rfl ?_
        exact j_iret hx hq rfl (by decide) (by decide) dX12_wins_133 ⟨v24, rfl, rfl, hS_s2, (zFr_t (zFr_t zFr_rf hF_s1 (by decide)) hF_s2 (by decide)), ⟨(by omega), by omega, by omega⟩⟩
    have c123_8 : JJ X E 6 G s2 0 0 [(0, .ref a), (1, .int (zI x1)), (4, .int (zI v24))] 123 [] := by
      refine j_iconst hx dX12_wins_123 ?_
      exact j_sub [0, 1, 2] [(0, .ref a), (1, .int (zI x1)), (4, .int (zI v24))] rfl (c124_3 0 (by omega))
    refine j_if_le hx 123 dX12_wins_64 rfl (by omega) (fun h65 => ?_) (fun h65 => ?_)
    · skip
      exact j_sub [2, 3, 0] [(0, .ref a), (1, .int (zI x1)), (4, .int (zI v24))] rfl (c123_8  )
    · skip
      refine j_aload_n hx 2 dX12_wins_67 rfl ?_
      refine g13_27 hx hG ha kf_RX12_56 dX12_wins_68 ?_
      refine j_sipush hx dX12_wins_71 rfl ?_
      have f66 := zaQ (j := 493) hS_s2 (zr (k := 27) (t2 := 84) hG ha rfl) (congrArg some (axS_7 493 (by omega))) (zlen hG (zr (k := 27) (t2 := 84) hG ha rfl) (n := 515) rfl rfl) (show 0 ≤ 493 by omega) (by omega) rfl
      refine j_iald hx hG (zr (k := 27) (t2 := 84) hG ha rfl) (by decide) rfl (zlen hG (zr (k := 27) (t2 := 84) hG ha rfl) (n := 515) rfl rfl) (by omega) (by omega) (j := 493) rfl rfl dX12_wins_74 ?_
      refine j_iconst hx dX12_wins_75 ?_
      have c119_9 : JJ X E 6 G s2 0 0 [(0, .ref a), (1, .int (zI x1)), (4, .int (zI v24))] 119 [] := by
        refine j_iconst hx dX12_wins_119 ?_
        refine j_goto hx 124 dX12_wins_120 rfl ?_
        exact j_sub [0, 1, 2] [(0, .ref a), (1, .int (zI x1)), (4, .int (zI v24))] rfl (c124_3 1 (by omega))
      refine j_icmp_eq hx 119 dX12_wins_76 rfl (by omega) ⟨by decide, by decide⟩ (fun h67 => ?_) (fun h67 => ?_)
      · skip
        exact j_sub [2, 3, 0] [(0, .ref a), (1, .int (zI x1)), (4, .int (zI v24))] rfl (c119_9  )
      · skip
        refine j_aload_n hx 2 dX12_wins_79 rfl ?_
        refine g13_27 hx hG ha kf_RX12_56 dX12_wins_80 ?_
        refine j_sipush hx dX12_wins_83 rfl ?_
        refine j_iald hx hG (zr (k := 27) (t2 := 84) hG ha rfl) (by decide) rfl (zlen hG (zr (k := 27) (t2 := 84) hG ha rfl) (n := 515) rfl rfl) (by omega) (by omega) (j := 493) rfl rfl dX12_wins_86 ?_
        refine j_iconst hx dX12_wins_87 ?_
        refine j_icmp_ne hx 123 dX12_wins_88 rfl (by omega) ⟨by decide, by decide⟩ (fun h68 => ?_) (fun h68 => ?_)
        · skip
          exact j_sub [2, 3, 0] [(0, .ref a), (1, .int (zI x1)), (4, .int (zI v24))] rfl (c123_8  )
        · skip
          refine j_aload_n hx 2 dX12_wins_91 rfl ?_
          refine g13_19 hx hG ha kf_RX12_50 dX12_wins_92 ?_
          refine j_aload_n hx 2 dX12_wins_95 rfl ?_
          refine g13_27 hx hG ha kf_RX12_56 dX12_wins_96 ?_
          refine j_sipush hx dX12_wins_99 rfl ?_
          refine j_aload_n hx 2 dX12_wins_102 rfl ?_
          refine g13_27 hx hG ha kf_RX12_56 dX12_wins_103 ?_
          refine j_sipush hx dX12_wins_106 rfl ?_
          refine j_iald hx hG (zr (k := 27) (t2 := 84) hG ha rfl) (by decide) rfl (zlen hG (zr (k := 27) (t2 := 84) hG ha rfl) (n := 515) rfl rfl) (by omega) (by omega) (j := 486) rfl rfl dX12_wins_109 ?_
          refine j_iadd hx (r := (s2 (gP G a 27) 486) + 360) dX12_wins_110 (by omega) ?_
          refine j_iconst hx dX12_wins_111 ?_
          refine j_isub hx (r := (s2 (gP G a 27) 486) + 359) dX12_wins_112 (by omega) ?_
          have f69 := zaQ (j := ((s2 (gP G a 27) 486) + 359).toNat) hS_s2 (zr (k := 27) (t2 := 84) hG ha rfl) (congrArg some (axS_0 ((s2 (gP G a 27) 486) + 359).toNat (by omega))) (zlen hG (zr (k := 27) (t2 := 84) hG ha rfl) (n := 515) rfl rfl) (show 0 ≤ (s2 (gP G a 27) 486) + 359 by omega) (by omega) rfl
          refine j_iald hx hG (zr (k := 27) (t2 := 84) hG ha rfl) (by decide) rfl (zlen hG (zr (k := 27) (t2 := 84) hG ha rfl) (n := 515) rfl rfl) (by omega) (by omega) (j := ((s2 (gP G a 27) 486) + 359).toNat) rfl rfl dX12_wins_113 ?_
          have f70 := zaI (j := ((s2 (gP G a 27) ((s2 (gP G a 27) 486) + 359).toNat)).toNat) hS0 (zr (k := 19) (t2 := 82) hG ha rfl) rfl (zlen hG (zr (k := 19) (t2 := 82) hG ha rfl) (n := 60) rfl rfl) (show 0 ≤ (s2 (gP G a 27) ((s2 (gP G a 27) 486) + 359).toNat) by omega) (by omega) rfl
          refine j_iald hx hG (zr (k := 19) (t2 := 82) hG ha rfl) (by decide) rfl (zlen hG (zr (k := 19) (t2 := 82) hG ha rfl) (n := 60) rfl rfl) (by omega) (by omega) (j := ((s2 (gP G a 27) ((s2 (gP G a 27) 486) + 359).toNat)).toNat) rfl (v := (s0 (gP G a 19) ((s2 (gP G a 27) ((s2 (gP G a 27) 486) + 359).toNat)).toNat)) (by rw [(zFr_g hF_s2 (zr (k := 19) (t2 := 82) hG ha rfl) (by decide)), (zFr_g hF_s1 (zr (k := 19) (t2 := 82) hG ha rfl) (by decide))]) dX12_wins_114 ?_
          refine j_iload_n hx 1 dX12_wins_115 rfl ?_
          refine j_icmp_ne hx 123 dX12_wins_116 rfl (by omega) (by omega) (fun h71 => ?_) (fun h71 => ?_)
          · skip
            exact j_sub [2, 3, 0] [(0, .ref a), (1, .int (zI x1)), (4, .int (zI v24))] rfl (c123_8  )
          · skip
            exact j_sub [2, 3, 0] [(0, .ref a), (1, .int (zI x1)), (4, .int (zI v24))] rfl (c119_9  )
  · skip
    refine j_aload_n hx 0 dX12_wins_0 rfl ?_
    refine j_iload_n hx 2 dX12_wins_1 rfl ?_
    refine j_bipush hx dX12_wins_2 rfl ?_
    refine j_idiv hx dX12_wins_4 ⟨by decide, by decide⟩ ⟨by decide, by decide⟩ (by decide) (fun v72 f73 f74 f75 => ?_)
    refine j_callV hx hG (c_X12_top hst a v72) lk_RX12_334 ha (by decide) rfl rfl rfl rfl [.int (zI v72)] ⟨rfl, hG, hS0, ha, (by omega)⟩ rfl rfl ⟨by decide, by decide⟩ ⟨by decide, by decide⟩ (k2 := 0) (n2 := 0) rfl rfl (Nat.le_of_ble_eq_true rfl) dX12_wins_5 (kIP (fun v78 q79 => ?_))
    refine j_istore_n hx [(3, .int (zI v78)), (0, .ref a), (1, .int (zI x1)), (2, .int (zI 2))] dX12_wins_8 (by decide) rfl ?_
    refine j_aload_n hx 1 dX12_wins_9 rfl ?_
    refine g13_27 hx hG ha kf_RX12_56 dX12_wins_10 ?_
    refine j_sipush hx dX12_wins_13 rfl ?_
    refine j_iload_n hx 3 dX12_wins_16 rfl ?_
    refine j_bipush hx dX12_wins_17 rfl ?_
    refine j_idiv hx dX12_wins_19 ⟨by decide, by decide⟩ ⟨by decide, by decide⟩ (by decide) (fun v80 f81 f82 f83 => ?_)
    refine j_iadd hx (r := v80 + 483) dX12_wins_20 (by omega) ?_
    have f86 := zaQ (j := (v80 + 483).toNat) hS0 (zr (k := 27) (t2 := 84) hG ha rfl) (congrArg some (axS_2 (v80 + 483).toNat (by omega))) (zlen hG (zr (k := 27) (t2 := 84) hG ha rfl) (n := 515) rfl rfl) (show 0 ≤ v80 + 483 by omega) (by omega) rfl
    have c87 := zc_1 (j := (v80 + 483).toNat) hS0 (zr (k := 27) (t2 := 84) hG ha rfl) (zn hG (zr (k := 27) (t2 := 84) hG ha rfl) rfl) (by omega) (by omega)
    refine j_iald hx hG (zr (k := 27) (t2 := 84) hG ha rfl) (by decide) rfl (zlen hG (zr (k := 27) (t2 := 84) hG ha rfl) (n := 515) rfl rfl) (by omega) (by omega) (j := (v80 + 483).toNat) rfl rfl dX12_wins_21 ?_
    refine j_aload_n hx 1 dX12_wins_22 rfl ?_
    refine g13_27 hx hG ha kf_RX12_56 dX12_wins_23 ?_
    refine j_sipush hx dX12_wins_26 rfl ?_
    refine j_iload_n hx 3 dX12_wins_29 rfl ?_
    refine j_bipush hx dX12_wins_30 rfl ?_
    refine j_irem hx dX12_wins_32 ⟨by decide, by decide⟩ ⟨by decide, by decide⟩ (by decide) (fun v88 f89 f90 f91 f92 => ?_)
    refine j_iadd hx (r := v88 + 483) dX12_wins_33 (by omega) ?_
    have f94 := zah (j := (v88 + 483).toNat) hS0 (zr (k := 27) (t2 := 84) hG ha rfl) (fun k => ⟨_, rfl, (axS_h _).1, (axS_h _).2.1⟩) (zlen hG (zr (k := 27) (t2 := 84) hG ha rfl) (n := 515) rfl rfl) (show 0 ≤ v88 + 483 by omega) (by omega) rfl
    refine j_iald hx hG (zr (k := 27) (t2 := 84) hG ha rfl) (by decide) rfl (zlen hG (zr (k := 27) (t2 := 84) hG ha rfl) (n := 515) rfl rfl) (by omega) (by omega) (j := (v88 + 483).toNat) rfl rfl dX12_wins_34 ?_
    refine j_iadd hx (r := (s0 (gP G a 27) (v80 + 483).toNat) + (s0 (gP G a 27) (v88 + 483).toNat)) dX12_wins_35 (by omega) ?_
    refine j_norm (fun v95 f96 f97 f98 => ?_)
    refine j_istore hx [(4, .int (zI v95)), (3, .int (zI v78)), (0, .ref a), (1, .int (zI x1)), (2, .int (zI 2))] dX12_wins_36 (by decide) rfl ?_
    refine j_aload_n hx 2 dX12_wins_38 rfl ?_
    refine j_iload_n hx 4 dX12_wins_39 rfl ?_
    refine j_bipush hx dX12_wins_40 rfl ?_
    refine j_idiv hx dX12_wins_42 ⟨by decide, by decide⟩ ⟨by decide, by decide⟩ (by decide) (fun v99 f100 f101 f102 => ?_)
    refine j_iload_n hx 3 dX12_wins_43 rfl ?_
    refine j_callV hx hG (c_X12_comesToRow hst a v99 x1) lk_RX12_368 ha (by decide) rfl rfl rfl rfl [.int (zI v99), .int (zI x1)] ⟨rfl, hG, hS0, ha, (by omega), (by omega), (by omega)⟩ rfl rfl ⟨by decide, by decide⟩ ⟨by decide, by decide⟩ (k2 := 0) (n2 := 0) rfl rfl (Nat.le_of_ble_eq_true rfl) dX12_wins_44 (kVM (fun s10 hS_s10 hF_s10 q106 => ?_))
    refine j_aload_n hx 2 dX12_wins_47 rfl ?_
    refine j_iload_n hx 4 dX12_wins_48 rfl ?_
    refine j_bipush hx dX12_wins_49 rfl ?_
    refine j_irem hx dX12_wins_51 ⟨by decide, by decide⟩ ⟨by decide, by decide⟩ (by decide) (fun v107 f108 f109 f110 f111 => ?_)
    refine j_iload_n hx 3 dX12_wins_52 rfl ?_
    refine j_callV hx hG (c_X12_comesToRow hst a v107 x1) lk_RX12_368 ha (by decide) rfl rfl rfl rfl [.int (zI v107), .int (zI x1)] ⟨rfl, hG, hS_s10, ha, (by omega), (by omega), (by omega)⟩ rfl rfl ⟨by decide, by decide⟩ ⟨by decide, by decide⟩ (k2 := 0) (n2 := 0) rfl rfl (Nat.le_of_ble_eq_true rfl) dX12_wins_53 (kVM (fun s11 hS_s11 hF_s11 q114 => ?_))
    refine j_aload_n hx 2 dX12_wins_56 rfl ?_
    refine g13_27 hx hG ha kf_RX12_56 dX12_wins_57 ?_
    refine j_sipush hx dX12_wins_60 rfl ?_
    have f115 := zaQ (j := 486) hS_s11 (zr (k := 27) (t2 := 84) hG ha rfl) (congrArg some (axS_2 486 (by omega))) (zlen hG (zr (k := 27) (t2 := 84) hG ha rfl) (n := 515) rfl rfl) (show 0 ≤ 486 by omega) (by omega) rfl
    have c116 := zc_1 (j := 486) hS_s11 (zr (k := 27) (t2 := 84) hG ha rfl) (zn hG (zr (k := 27) (t2 := 84) hG ha rfl) rfl) (by omega) (by omega)
    refine j_iald hx hG (zr (k := 27) (t2 := 84) hG ha rfl) (by decide) rfl (zlen hG (zr (k := 27) (t2 := 84) hG ha rfl) (n := 515) rfl rfl) (by omega) (by omega) (j := 486) rfl rfl dX12_wins_63 ?_
    have c124_12 : ∀ (v117 : Int), (0 ≤ v117 ∧ v117 ≤ 1) → JJ X E 6 G s11 0 0 [(0, .ref a), (1, .int (zI x1)), (4, .int (zI v95))] 124 [.int (zI v117)] := by
      intro v117 fA13
      refine j_istore hx [(5, .int (zI v117)), (0, .ref a), (1, .int (zI x1)), (4, .int (zI v95))] dX12_wins_124 (by decide) rfl ?_
      refine j_iload hx 0 dX12_wins_126 rfl ?_
      refine j_if_ne hx 134 dX12_wins_128 rfl (by omega) (fun h118 => ?_) (fun h118 => ?_)
      · skip
        refine j_iload hx 3 dX12_wins_134 rfl ?_
        refine j_aload_n hx 1 dX12_wins_136 rfl ?_
        refine g13_27 hx hG ha kf_RX12_56 dX12_wins_137 ?_
        refine j_sipush hx dX12_wins_140 rfl ?_
        refine j_iald hx hG (zr (k := 27) (t2 := 84) hG ha rfl) (by decide) rfl (zlen hG (zr (k := 27) (t2 := 84) hG ha rfl) (n := 515) rfl rfl) (by omega) (by omega) (j := 486) rfl rfl dX12_wins_143 ?_
        refine j_iadd hx (r := v95 + (s11 (gP G a 27) 486)) dX12_wins_144 (by omega) ?_
        refine j_norm (fun v119 f120 f121 f122 => ?_)
        refine j_istore hx [(4, .int (zI v119)), (5, .int (zI v117)), (0, .ref a), (1, .int (zI x1))] dX12_wins_145 (by decide) rfl ?_
        refine j_aload_n hx 2 dX12_wins_147 rfl ?_
        refine j_sipush hx dX12_wins_148 rfl ?_
        refine j_sipush hx dX12_wins_151 rfl ?_
        refine j_iconst hx dX12_wins_154 ?_
        refine j_bipush hx dX12_wins_155 rfl ?_
        refine j_iload_n hx 3 dX12_wins_157 rfl ?_
        refine j_imul hx (r := 60 * x1) dX12_wins_158 rfl ?_
        refine j_iadd hx (r := 60 * x1) dX12_wins_159 (by omega) ?_
        refine j_sipush hx dX12_wins_160 rfl ?_
        refine j_iload_n hx 3 dX12_wins_163 rfl ?_
        refine j_iadd hx (r := x1 + 480) dX12_wins_164 (by omega) ?_
        refine j_callV hx hG (c_X12_take hst a 360 486 (60 * x1) (x1 + 480)) lk_RX12_361 ha (by decide) rfl rfl rfl rfl [.int (zI 360), .int (zI 486), .int (zI (60 * x1)), .int (zI (x1 + 480))] ⟨rfl, hG, hS_s11, ha, (by omega), (by omega), (by omega), (by omega), (by omega), (by omega)⟩ rfl rfl ⟨by decide, by decide⟩ ⟨by decide, by decide⟩ (k2 := 0) (n2 := 0) rfl rfl (Nat.le_of_ble_eq_true rfl) dX12_wins_165 (kVM (fun s14 hS_s14 hF_s14 q124 => ?_))
        refine j_aload_n hx 2 dX12_wins_168 rfl ?_
        refine g13_27 hx hG ha kf_RX12_56 dX12_wins_169 ?_
        refine j_sipush hx dX12_wins_172 rfl ?_
        refine j_iload_n hx 3 dX12_wins_175 rfl ?_
        refine j_iadd hx (r := x1 + 480) dX12_wins_176 (by omega) ?_
        refine j_dup2 hx dX12_wins_177 rfl rfl ?_
        have f125 := zaQ (j := (x1 + 480).toNat) hS_s14 (zr (k := 27) (t2 := 84) hG ha rfl) (congrArg some (axS_2 (x1 + 480).toNat (by omega))) (zlen hG (zr (k := 27) (t2 := 84) hG ha rfl) (n := 515) rfl rfl) (show 0 ≤ x1 + 480 by omega) (by omega) rfl
        have c126 := zc_1 (j := (x1 + 480).toNat) hS_s14 (zr (k := 27) (t2 := 84) hG ha rfl) (zn hG (zr (k := 27) (t2 := 84) hG ha rfl) rfl) (by omega) (by omega)
        refine j_iald hx hG (zr (k := 27) (t2 := 84) hG ha rfl) (by decide) rfl (zlen hG (zr (k := 27) (t2 := 84) hG ha rfl) (n := 515) rfl rfl) (by omega) (by omega) (j := (x1 + 480).toNat) rfl rfl dX12_wins_178 ?_
        refine j_aload_n hx 2 dX12_wins_179 rfl ?_
        refine g13_27 hx hG ha kf_RX12_56 dX12_wins_180 ?_
        refine j_sipush hx dX12_wins_183 rfl ?_
        have f127 := zaQ (j := 486) hS_s14 (zr (k := 27) (t2 := 84) hG ha rfl) (congrArg some (axS_2 486 (by omega))) (zlen hG (zr (k := 27) (t2 := 84) hG ha rfl) (n := 515) rfl rfl) (show 0 ≤ 486 by omega) (by omega) rfl
        have c128 := zc_1 (j := 486) hS_s14 (zr (k := 27) (t2 := 84) hG ha rfl) (zn hG (zr (k := 27) (t2 := 84) hG ha rfl) rfl) (by omega) (by omega)
        have c129 : (x1 + 480).toNat ≠ 486 → s14 (gP G a 27) (x1 + 480).toNat + s14 (gP G a 27) 486 ≤ zc (s14 (gP G a 27)) := fun e => zc_2 hS_s14 (zr (k := 27) (t2 := 84) hG ha rfl) (zn hG (zr (k := 27) (t2 := 84) hG ha rfl) rfl) (by omega) (by omega) (by omega) (by omega) e
        refine j_iald hx hG (zr (k := 27) (t2 := 84) hG ha rfl) (by decide) rfl (zlen hG (zr (k := 27) (t2 := 84) hG ha rfl) (n := 515) rfl rfl) (by omega) (by omega) (j := 486) rfl rfl dX12_wins_186 ?_
        refine j_iadd hx (r := (s14 (gP G a 27) (x1 + 480).toNat) + (s14 (gP G a 27) 486)) dX12_wins_187 (by omega) ?_
        refine j_iast hx hG (zr (k := 27) (t2 := 84) hG ha rfl) (by decide) rfl (zlen hG (zr (k := 27) (t2 := 84) hG ha rfl) (n := 515) rfl rfl) (by omega) (by omega) (j := (x1 + 480).toNat) rfl dX12_wins_188 ?_
        obtain ⟨s15, e_s15⟩ : ∃ z, z = zU s14 (gP G a 27) (x1 + 480).toNat ((s14 (gP G a 27) (x1 + 480).toNat) + (s14 (gP G a 27) 486)) := ⟨_, rfl⟩
        rw [← e_s15]
        have hS_s15 : zSK G s15 := by rw [e_s15]; exact zSK_a hS_s14 (zr (k := 27) (t2 := 84) hG ha rfl) rfl rfl (congrArg some (axS_2 (x1 + 480).toNat (by omega))) (by omega)
        have g131 : s15 (gP G a 27) (x1 + 480).toNat = (s14 (gP G a 27) (x1 + 480).toNat) + (s14 (gP G a 27) 486) := (by rw [e_s15, zU_eq])
        have z130 : zc (s15 (gP G a 27)) = zc (s14 (gP G a 27)) - s14 (gP G a 27) (x1 + 480).toNat + s15 (gP G a 27) (x1 + 480).toNat := by rw [e_s15, zU_eq]; exact zc_w (by omega) (by omega)
        refine j_aload_n hx 2 dX12_wins_189 rfl ?_
        refine g13_27 hx hG ha kf_RX12_56 dX12_wins_190 ?_
        refine j_sipush hx dX12_wins_193 rfl ?_
        refine j_iconst hx dX12_wins_196 ?_
        refine j_iast hx hG (zr (k := 27) (t2 := 84) hG ha rfl) (by decide) rfl (zlen hG (zr (k := 27) (t2 := 84) hG ha rfl) (n := 515) rfl rfl) (by omega) (by omega) (j := 486) rfl dX12_wins_197 ?_
        obtain ⟨s16, e_s16⟩ : ∃ z, z = zU s15 (gP G a 27) 486 0 := ⟨_, rfl⟩
        rw [← e_s16]
        have hS_s16 : zSK G s16 := by rw [e_s16]; exact zSK_a hS_s15 (zr (k := 27) (t2 := 84) hG ha rfl) rfl rfl (congrArg some (axS_2 486 (by omega))) (by omega)
        have g133 : s15 (gP G a 27) 486 = s14 (gP G a 27) 486 := (by rw [e_s15, zU_at (Or.inr (by omega))])
        have g134 : s16 (gP G a 27) 486 = 0 := (by rw [e_s16, zU_eq])
        have z132 : zc (s16 (gP G a 27)) = zc (s15 (gP G a 27)) - s15 (gP G a 27) 486 + s16 (gP G a 27) 486 := by rw [e_s16, zU_eq]; exact zc_w (by omega) (by omega)
        refine j_iload hx 0 dX12_wins_198 rfl ?_
        have g135 : s16 (gP G a 27) 488 = s14 (gP G a 27) 488 := (by rw [e_s16, zU_at (Or.inr (by decide)), e_s15, zU_at (Or.inr (by omega))])
        exact j_iret hx hq rfl (by decide) (by decide) dX12_wins_200 ⟨v119, rfl, rfl, hS_s16, (zFr_u (zFr_u (zFr_t (zFr_t (zFr_t zFr_rf hF_s10 (by decide)) hF_s11 (by decide)) hF_s14 (by decide)) e_s15 (zr (k := 27) (t2 := 84) hG ha rfl) (by decide)) e_s16 (zr (k := 27) (t2 := 84) hG ha rfl) (by decide)), ⟨(by omega), by omega, by omega⟩⟩
      · skip
        refine j_iload hx 3 dX12_wins_131 rfl ?_
        exact j_iret hx hq rfl (by decide) (by decide) dX12_wins_133 ⟨v95, rfl, rfl, hS_s11, (zFr_t (zFr_t zFr_rf hF_s10 (by decide)) hF_s11 (by decide)), ⟨(by omega), by omega, by omega⟩⟩
    have c123_17 : JJ X E 6 G s11 0 0 [(0, .ref a), (1, .int (zI x1)), (4, .int (zI v95))] 123 [] := by
      refine j_iconst hx dX12_wins_123 ?_
      exact j_sub [0, 1, 2] [(0, .ref a), (1, .int (zI x1)), (4, .int (zI v95))] rfl (c124_12 0 (by omega))
    refine j_if_le hx 123 dX12_wins_64 rfl (by omega) (fun h136 => ?_) (fun h136 => ?_)
    · skip
      exact j_sub [2, 3, 0] [(0, .ref a), (1, .int (zI x1)), (4, .int (zI v95))] rfl (c123_17  )
    · skip
      refine j_aload_n hx 2 dX12_wins_67 rfl ?_
      refine g13_27 hx hG ha kf_RX12_56 dX12_wins_68 ?_
      refine j_sipush hx dX12_wins_71 rfl ?_
      have f137 := zaQ (j := 493) hS_s11 (zr (k := 27) (t2 := 84) hG ha rfl) (congrArg some (axS_7 493 (by omega))) (zlen hG (zr (k := 27) (t2 := 84) hG ha rfl) (n := 515) rfl rfl) (show 0 ≤ 493 by omega) (by omega) rfl
      refine j_iald hx hG (zr (k := 27) (t2 := 84) hG ha rfl) (by decide) rfl (zlen hG (zr (k := 27) (t2 := 84) hG ha rfl) (n := 515) rfl rfl) (by omega) (by omega) (j := 493) rfl rfl dX12_wins_74 ?_
      refine j_iconst hx dX12_wins_75 ?_
      have c119_18 : JJ X E 6 G s11 0 0 [(0, .ref a), (1, .int (zI x1)), (4, .int (zI v95))] 119 [] := by
        refine j_iconst hx dX12_wins_119 ?_
        refine j_goto hx 124 dX12_wins_120 rfl ?_
        exact j_sub [0, 1, 2] [(0, .ref a), (1, .int (zI x1)), (4, .int (zI v95))] rfl (c124_12 1 (by omega))
      refine j_icmp_eq hx 119 dX12_wins_76 rfl (by omega) ⟨by decide, by decide⟩ (fun h138 => ?_) (fun h138 => ?_)
      · skip
        exact j_sub [2, 3, 0] [(0, .ref a), (1, .int (zI x1)), (4, .int (zI v95))] rfl (c119_18  )
      · skip
        refine j_aload_n hx 2 dX12_wins_79 rfl ?_
        refine g13_27 hx hG ha kf_RX12_56 dX12_wins_80 ?_
        refine j_sipush hx dX12_wins_83 rfl ?_
        refine j_iald hx hG (zr (k := 27) (t2 := 84) hG ha rfl) (by decide) rfl (zlen hG (zr (k := 27) (t2 := 84) hG ha rfl) (n := 515) rfl rfl) (by omega) (by omega) (j := 493) rfl rfl dX12_wins_86 ?_
        refine j_iconst hx dX12_wins_87 ?_
        refine j_icmp_ne hx 123 dX12_wins_88 rfl (by omega) ⟨by decide, by decide⟩ (fun h139 => ?_) (fun h139 => ?_)
        · skip
          exact j_sub [2, 3, 0] [(0, .ref a), (1, .int (zI x1)), (4, .int (zI v95))] rfl (c123_17  )
        · skip
          refine j_aload_n hx 2 dX12_wins_91 rfl ?_
          refine g13_19 hx hG ha kf_RX12_50 dX12_wins_92 ?_
          refine j_aload_n hx 2 dX12_wins_95 rfl ?_
          refine g13_27 hx hG ha kf_RX12_56 dX12_wins_96 ?_
          refine j_sipush hx dX12_wins_99 rfl ?_
          refine j_aload_n hx 2 dX12_wins_102 rfl ?_
          refine g13_27 hx hG ha kf_RX12_56 dX12_wins_103 ?_
          refine j_sipush hx dX12_wins_106 rfl ?_
          refine j_iald hx hG (zr (k := 27) (t2 := 84) hG ha rfl) (by decide) rfl (zlen hG (zr (k := 27) (t2 := 84) hG ha rfl) (n := 515) rfl rfl) (by omega) (by omega) (j := 486) rfl rfl dX12_wins_109 ?_
          refine j_iadd hx (r := (s11 (gP G a 27) 486) + 360) dX12_wins_110 (by omega) ?_
          refine j_iconst hx dX12_wins_111 ?_
          refine j_isub hx (r := (s11 (gP G a 27) 486) + 359) dX12_wins_112 (by omega) ?_
          have f140 := zaQ (j := ((s11 (gP G a 27) 486) + 359).toNat) hS_s11 (zr (k := 27) (t2 := 84) hG ha rfl) (congrArg some (axS_0 ((s11 (gP G a 27) 486) + 359).toNat (by omega))) (zlen hG (zr (k := 27) (t2 := 84) hG ha rfl) (n := 515) rfl rfl) (show 0 ≤ (s11 (gP G a 27) 486) + 359 by omega) (by omega) rfl
          refine j_iald hx hG (zr (k := 27) (t2 := 84) hG ha rfl) (by decide) rfl (zlen hG (zr (k := 27) (t2 := 84) hG ha rfl) (n := 515) rfl rfl) (by omega) (by omega) (j := ((s11 (gP G a 27) 486) + 359).toNat) rfl rfl dX12_wins_113 ?_
          have f141 := zaI (j := ((s11 (gP G a 27) ((s11 (gP G a 27) 486) + 359).toNat)).toNat) hS0 (zr (k := 19) (t2 := 82) hG ha rfl) rfl (zlen hG (zr (k := 19) (t2 := 82) hG ha rfl) (n := 60) rfl rfl) (show 0 ≤ (s11 (gP G a 27) ((s11 (gP G a 27) 486) + 359).toNat) by omega) (by omega) rfl
          refine j_iald hx hG (zr (k := 19) (t2 := 82) hG ha rfl) (by decide) rfl (zlen hG (zr (k := 19) (t2 := 82) hG ha rfl) (n := 60) rfl rfl) (by omega) (by omega) (j := ((s11 (gP G a 27) ((s11 (gP G a 27) 486) + 359).toNat)).toNat) rfl (v := (s0 (gP G a 19) ((s11 (gP G a 27) ((s11 (gP G a 27) 486) + 359).toNat)).toNat)) (by rw [(zFr_g hF_s11 (zr (k := 19) (t2 := 82) hG ha rfl) (by decide)), (zFr_g hF_s10 (zr (k := 19) (t2 := 82) hG ha rfl) (by decide))]) dX12_wins_114 ?_
          refine j_iload_n hx 1 dX12_wins_115 rfl ?_
          refine j_icmp_ne hx 123 dX12_wins_116 rfl (by omega) (by omega) (fun h142 => ?_) (fun h142 => ?_)
          · skip
            exact j_sub [2, 3, 0] [(0, .ref a), (1, .int (zI x1)), (4, .int (zI v95))] rfl (c123_17  )
          · skip
            exact j_sub [2, 3, 0] [(0, .ref a), (1, .int (zI x1)), (4, .int (zI v95))] rfl (c119_18  )
  · skip
    refine j_aload_n hx 0 dX12_wins_0 rfl ?_
    refine j_iload_n hx 2 dX12_wins_1 rfl ?_
    refine j_bipush hx dX12_wins_2 rfl ?_
    refine j_idiv hx dX12_wins_4 ⟨by decide, by decide⟩ ⟨by decide, by decide⟩ (by decide) (fun v143 f144 f145 f146 => ?_)
    refine j_callV hx hG (c_X12_top hst a v143) lk_RX12_334 ha (by decide) rfl rfl rfl rfl [.int (zI v143)] ⟨rfl, hG, hS0, ha, (by omega)⟩ rfl rfl ⟨by decide, by decide⟩ ⟨by decide, by decide⟩ (k2 := 0) (n2 := 0) rfl rfl (Nat.le_of_ble_eq_true rfl) dX12_wins_5 (kIP (fun v149 q150 => ?_))
    refine j_istore_n hx [(3, .int (zI v149)), (0, .ref a), (1, .int (zI x1)), (2, .int (zI 12))] dX12_wins_8 (by decide) rfl ?_
    refine j_aload_n hx 1 dX12_wins_9 rfl ?_
    refine g13_27 hx hG ha kf_RX12_56 dX12_wins_10 ?_
    refine j_sipush hx dX12_wins_13 rfl ?_
    refine j_iload_n hx 3 dX12_wins_16 rfl ?_
    refine j_bipush hx dX12_wins_17 rfl ?_
    refine j_idiv hx dX12_wins_19 ⟨by decide, by decide⟩ ⟨by decide, by decide⟩ (by decide) (fun v151 f152 f153 f154 => ?_)
    refine j_iadd hx (r := v151 + 483) dX12_wins_20 (by omega) ?_
    have f157 := zaQ (j := (v151 + 483).toNat) hS0 (zr (k := 27) (t2 := 84) hG ha rfl) (congrArg some (axS_2 (v151 + 483).toNat (by omega))) (zlen hG (zr (k := 27) (t2 := 84) hG ha rfl) (n := 515) rfl rfl) (show 0 ≤ v151 + 483 by omega) (by omega) rfl
    have c158 := zc_1 (j := (v151 + 483).toNat) hS0 (zr (k := 27) (t2 := 84) hG ha rfl) (zn hG (zr (k := 27) (t2 := 84) hG ha rfl) rfl) (by omega) (by omega)
    refine j_iald hx hG (zr (k := 27) (t2 := 84) hG ha rfl) (by decide) rfl (zlen hG (zr (k := 27) (t2 := 84) hG ha rfl) (n := 515) rfl rfl) (by omega) (by omega) (j := (v151 + 483).toNat) rfl rfl dX12_wins_21 ?_
    refine j_aload_n hx 1 dX12_wins_22 rfl ?_
    refine g13_27 hx hG ha kf_RX12_56 dX12_wins_23 ?_
    refine j_sipush hx dX12_wins_26 rfl ?_
    refine j_iload_n hx 3 dX12_wins_29 rfl ?_
    refine j_bipush hx dX12_wins_30 rfl ?_
    refine j_irem hx dX12_wins_32 ⟨by decide, by decide⟩ ⟨by decide, by decide⟩ (by decide) (fun v159 f160 f161 f162 f163 => ?_)
    refine j_iadd hx (r := v159 + 483) dX12_wins_33 (by omega) ?_
    have f165 := zah (j := (v159 + 483).toNat) hS0 (zr (k := 27) (t2 := 84) hG ha rfl) (fun k => ⟨_, rfl, (axS_h _).1, (axS_h _).2.1⟩) (zlen hG (zr (k := 27) (t2 := 84) hG ha rfl) (n := 515) rfl rfl) (show 0 ≤ v159 + 483 by omega) (by omega) rfl
    refine j_iald hx hG (zr (k := 27) (t2 := 84) hG ha rfl) (by decide) rfl (zlen hG (zr (k := 27) (t2 := 84) hG ha rfl) (n := 515) rfl rfl) (by omega) (by omega) (j := (v159 + 483).toNat) rfl rfl dX12_wins_34 ?_
    refine j_iadd hx (r := (s0 (gP G a 27) (v151 + 483).toNat) + (s0 (gP G a 27) (v159 + 483).toNat)) dX12_wins_35 (by omega) ?_
    refine j_norm (fun v166 f167 f168 f169 => ?_)
    refine j_istore hx [(4, .int (zI v166)), (3, .int (zI v149)), (0, .ref a), (1, .int (zI x1)), (2, .int (zI 12))] dX12_wins_36 (by decide) rfl ?_
    refine j_aload_n hx 2 dX12_wins_38 rfl ?_
    refine j_iload_n hx 4 dX12_wins_39 rfl ?_
    refine j_bipush hx dX12_wins_40 rfl ?_
    refine j_idiv hx dX12_wins_42 ⟨by decide, by decide⟩ ⟨by decide, by decide⟩ (by decide) (fun v170 f171 f172 f173 => ?_)
    refine j_iload_n hx 3 dX12_wins_43 rfl ?_
    refine j_callV hx hG (c_X12_comesToRow hst a v170 x1) lk_RX12_368 ha (by decide) rfl rfl rfl rfl [.int (zI v170), .int (zI x1)] ⟨rfl, hG, hS0, ha, (by omega), (by omega), (by omega)⟩ rfl rfl ⟨by decide, by decide⟩ ⟨by decide, by decide⟩ (k2 := 0) (n2 := 0) rfl rfl (Nat.le_of_ble_eq_true rfl) dX12_wins_44 (kVM (fun s19 hS_s19 hF_s19 q177 => ?_))
    refine j_aload_n hx 2 dX12_wins_47 rfl ?_
    refine j_iload_n hx 4 dX12_wins_48 rfl ?_
    refine j_bipush hx dX12_wins_49 rfl ?_
    refine j_irem hx dX12_wins_51 ⟨by decide, by decide⟩ ⟨by decide, by decide⟩ (by decide) (fun v178 f179 f180 f181 f182 => ?_)
    refine j_iload_n hx 3 dX12_wins_52 rfl ?_
    refine j_callV hx hG (c_X12_comesToRow hst a v178 x1) lk_RX12_368 ha (by decide) rfl rfl rfl rfl [.int (zI v178), .int (zI x1)] ⟨rfl, hG, hS_s19, ha, (by omega), (by omega), (by omega)⟩ rfl rfl ⟨by decide, by decide⟩ ⟨by decide, by decide⟩ (k2 := 0) (n2 := 0) rfl rfl (Nat.le_of_ble_eq_true rfl) dX12_wins_53 (kVM (fun s20 hS_s20 hF_s20 q185 => ?_))
    refine j_aload_n hx 2 dX12_wins_56 rfl ?_
    refine g13_27 hx hG ha kf_RX12_56 dX12_wins_57 ?_
    refine j_sipush hx dX12_wins_60 rfl ?_
    have f186 := zaQ (j := 486) hS_s20 (zr (k := 27) (t2 := 84) hG ha rfl) (congrArg some (axS_2 486 (by omega))) (zlen hG (zr (k := 27) (t2 := 84) hG ha rfl) (n := 515) rfl rfl) (show 0 ≤ 486 by omega) (by omega) rfl
    have c187 := zc_1 (j := 486) hS_s20 (zr (k := 27) (t2 := 84) hG ha rfl) (zn hG (zr (k := 27) (t2 := 84) hG ha rfl) rfl) (by omega) (by omega)
    refine j_iald hx hG (zr (k := 27) (t2 := 84) hG ha rfl) (by decide) rfl (zlen hG (zr (k := 27) (t2 := 84) hG ha rfl) (n := 515) rfl rfl) (by omega) (by omega) (j := 486) rfl rfl dX12_wins_63 ?_
    have c124_21 : ∀ (v188 : Int), (0 ≤ v188 ∧ v188 ≤ 1) → JJ X E 6 G s20 0 0 [(0, .ref a), (1, .int (zI x1)), (4, .int (zI v166))] 124 [.int (zI v188)] := by
      intro v188 fA22
      refine j_istore hx [(5, .int (zI v188)), (0, .ref a), (1, .int (zI x1)), (4, .int (zI v166))] dX12_wins_124 (by decide) rfl ?_
      refine j_iload hx 0 dX12_wins_126 rfl ?_
      refine j_if_ne hx 134 dX12_wins_128 rfl (by omega) (fun h189 => ?_) (fun h189 => ?_)
      · skip
        refine j_iload hx 3 dX12_wins_134 rfl ?_
        refine j_aload_n hx 1 dX12_wins_136 rfl ?_
        refine g13_27 hx hG ha kf_RX12_56 dX12_wins_137 ?_
        refine j_sipush hx dX12_wins_140 rfl ?_
        refine j_iald hx hG (zr (k := 27) (t2 := 84) hG ha rfl) (by decide) rfl (zlen hG (zr (k := 27) (t2 := 84) hG ha rfl) (n := 515) rfl rfl) (by omega) (by omega) (j := 486) rfl rfl dX12_wins_143 ?_
        refine j_iadd hx (r := v166 + (s20 (gP G a 27) 486)) dX12_wins_144 (by omega) ?_
        refine j_norm (fun v190 f191 f192 f193 => ?_)
        refine j_istore hx [(4, .int (zI v190)), (5, .int (zI v188)), (0, .ref a), (1, .int (zI x1))] dX12_wins_145 (by decide) rfl ?_
        refine j_aload_n hx 2 dX12_wins_147 rfl ?_
        refine j_sipush hx dX12_wins_148 rfl ?_
        refine j_sipush hx dX12_wins_151 rfl ?_
        refine j_iconst hx dX12_wins_154 ?_
        refine j_bipush hx dX12_wins_155 rfl ?_
        refine j_iload_n hx 3 dX12_wins_157 rfl ?_
        refine j_imul hx (r := 60 * x1) dX12_wins_158 rfl ?_
        refine j_iadd hx (r := 60 * x1) dX12_wins_159 (by omega) ?_
        refine j_sipush hx dX12_wins_160 rfl ?_
        refine j_iload_n hx 3 dX12_wins_163 rfl ?_
        refine j_iadd hx (r := x1 + 480) dX12_wins_164 (by omega) ?_
        refine j_callV hx hG (c_X12_take hst a 360 486 (60 * x1) (x1 + 480)) lk_RX12_361 ha (by decide) rfl rfl rfl rfl [.int (zI 360), .int (zI 486), .int (zI (60 * x1)), .int (zI (x1 + 480))] ⟨rfl, hG, hS_s20, ha, (by omega), (by omega), (by omega), (by omega), (by omega), (by omega)⟩ rfl rfl ⟨by decide, by decide⟩ ⟨by decide, by decide⟩ (k2 := 0) (n2 := 0) rfl rfl (Nat.le_of_ble_eq_true rfl) dX12_wins_165 (kVM (fun s23 hS_s23 hF_s23 q195 => ?_))
        refine j_aload_n hx 2 dX12_wins_168 rfl ?_
        refine g13_27 hx hG ha kf_RX12_56 dX12_wins_169 ?_
        refine j_sipush hx dX12_wins_172 rfl ?_
        refine j_iload_n hx 3 dX12_wins_175 rfl ?_
        refine j_iadd hx (r := x1 + 480) dX12_wins_176 (by omega) ?_
        refine j_dup2 hx dX12_wins_177 rfl rfl ?_
        have f196 := zaQ (j := (x1 + 480).toNat) hS_s23 (zr (k := 27) (t2 := 84) hG ha rfl) (congrArg some (axS_2 (x1 + 480).toNat (by omega))) (zlen hG (zr (k := 27) (t2 := 84) hG ha rfl) (n := 515) rfl rfl) (show 0 ≤ x1 + 480 by omega) (by omega) rfl
        have c197 := zc_1 (j := (x1 + 480).toNat) hS_s23 (zr (k := 27) (t2 := 84) hG ha rfl) (zn hG (zr (k := 27) (t2 := 84) hG ha rfl) rfl) (by omega) (by omega)
        refine j_iald hx hG (zr (k := 27) (t2 := 84) hG ha rfl) (by decide) rfl (zlen hG (zr (k := 27) (t2 := 84) hG ha rfl) (n := 515) rfl rfl) (by omega) (by omega) (j := (x1 + 480).toNat) rfl rfl dX12_wins_178 ?_
        refine j_aload_n hx 2 dX12_wins_179 rfl ?_
        refine g13_27 hx hG ha kf_RX12_56 dX12_wins_180 ?_
        refine j_sipush hx dX12_wins_183 rfl ?_
        have f198 := zaQ (j := 486) hS_s23 (zr (k := 27) (t2 := 84) hG ha rfl) (congrArg some (axS_2 486 (by omega))) (zlen hG (zr (k := 27) (t2 := 84) hG ha rfl) (n := 515) rfl rfl) (show 0 ≤ 486 by omega) (by omega) rfl
        have c199 := zc_1 (j := 486) hS_s23 (zr (k := 27) (t2 := 84) hG ha rfl) (zn hG (zr (k := 27) (t2 := 84) hG ha rfl) rfl) (by omega) (by omega)
        have c200 : (x1 + 480).toNat ≠ 486 → s23 (gP G a 27) (x1 + 480).toNat + s23 (gP G a 27) 486 ≤ zc (s23 (gP G a 27)) := fun e => zc_2 hS_s23 (zr (k := 27) (t2 := 84) hG ha rfl) (zn hG (zr (k := 27) (t2 := 84) hG ha rfl) rfl) (by omega) (by omega) (by omega) (by omega) e
        refine j_iald hx hG (zr (k := 27) (t2 := 84) hG ha rfl) (by decide) rfl (zlen hG (zr (k := 27) (t2 := 84) hG ha rfl) (n := 515) rfl rfl) (by omega) (by omega) (j := 486) rfl rfl dX12_wins_186 ?_
        refine j_iadd hx (r := (s23 (gP G a 27) (x1 + 480).toNat) + (s23 (gP G a 27) 486)) dX12_wins_187 (by omega) ?_
        refine j_iast hx hG (zr (k := 27) (t2 := 84) hG ha rfl) (by decide) rfl (zlen hG (zr (k := 27) (t2 := 84) hG ha rfl) (n := 515) rfl rfl) (by omega) (by omega) (j := (x1 + 480).toNat) rfl dX12_wins_188 ?_
        obtain ⟨s24, e_s24⟩ : ∃ z, z = zU s23 (gP G a 27) (x1 + 480).toNat ((s23 (gP G a 27) (x1 + 480).toNat) + (s23 (gP G a 27) 486)) := ⟨_, rfl⟩
        rw [← e_s24]
        have hS_s24 : zSK G s24 := by rw [e_s24]; exact zSK_a hS_s23 (zr (k := 27) (t2 := 84) hG ha rfl) rfl rfl (congrArg some (axS_2 (x1 + 480).toNat (by omega))) (by omega)
        have g202 : s24 (gP G a 27) (x1 + 480).toNat = (s23 (gP G a 27) (x1 + 480).toNat) + (s23 (gP G a 27) 486) := (by rw [e_s24, zU_eq])
        have z201 : zc (s24 (gP G a 27)) = zc (s23 (gP G a 27)) - s23 (gP G a 27) (x1 + 480).toNat + s24 (gP G a 27) (x1 + 480).toNat := by rw [e_s24, zU_eq]; exact zc_w (by omega) (by omega)
        refine j_aload_n hx 2 dX12_wins_189 rfl ?_
        refine g13_27 hx hG ha kf_RX12_56 dX12_wins_190 ?_
        refine j_sipush hx dX12_wins_193 rfl ?_
        refine j_iconst hx dX12_wins_196 ?_
        refine j_iast hx hG (zr (k := 27) (t2 := 84) hG ha rfl) (by decide) rfl (zlen hG (zr (k := 27) (t2 := 84) hG ha rfl) (n := 515) rfl rfl) (by omega) (by omega) (j := 486) rfl dX12_wins_197 ?_
        obtain ⟨s25, e_s25⟩ : ∃ z, z = zU s24 (gP G a 27) 486 0 := ⟨_, rfl⟩
        rw [← e_s25]
        have hS_s25 : zSK G s25 := by rw [e_s25]; exact zSK_a hS_s24 (zr (k := 27) (t2 := 84) hG ha rfl) rfl rfl (congrArg some (axS_2 486 (by omega))) (by omega)
        have g204 : s24 (gP G a 27) 486 = s23 (gP G a 27) 486 := (by rw [e_s24, zU_at (Or.inr (by omega))])
        have g205 : s25 (gP G a 27) 486 = 0 := (by rw [e_s25, zU_eq])
        have z203 : zc (s25 (gP G a 27)) = zc (s24 (gP G a 27)) - s24 (gP G a 27) 486 + s25 (gP G a 27) 486 := by rw [e_s25, zU_eq]; exact zc_w (by omega) (by omega)
        refine j_iload hx 0 dX12_wins_198 rfl ?_
        have g206 : s25 (gP G a 27) 488 = s23 (gP G a 27) 488 := (by rw [e_s25, zU_at (Or.inr (by decide)), e_s24, zU_at (Or.inr (by omega))])
        exact j_iret hx hq rfl (by decide) (by decide) dX12_wins_200 ⟨v190, rfl, rfl, hS_s25, (zFr_u (zFr_u (zFr_t (zFr_t (zFr_t zFr_rf hF_s19 (by decide)) hF_s20 (by decide)) hF_s23 (by decide)) e_s24 (zr (k := 27) (t2 := 84) hG ha rfl) (by decide)) e_s25 (zr (k := 27) (t2 := 84) hG ha rfl) (by decide)), ⟨(by omega), by omega, by omega⟩⟩
      · skip
        refine j_iload hx 3 dX12_wins_131 rfl ?_
        exact j_iret hx hq rfl (by decide) (by decide) dX12_wins_133 ⟨v166, rfl, rfl, hS_s20, (zFr_t (zFr_t zFr_rf hF_s19 (by decide)) hF_s20 (by decide)), ⟨(by omega), by omega, by omega⟩⟩
    have c123_26 : JJ X E 6 G s20 0 0 [(0, .ref a), (1, .int (zI x1)), (4, .int (zI v166))] 123 [] := by
      refine j_iconst hx dX12_wins_123 ?_
      exact j_sub [0, 1, 2] [(0, .ref a), (1, .int (zI x1)), (4, .int (zI v166))] rfl (c124_21 0 (by omega))
    refine j_if_le hx 123 dX12_wins_64 rfl (by omega) (fun h207 => ?_) (fun h207 => ?_)
    · skip
      exact j_sub [2, 3, 0] [(0, .ref a), (1, .int (zI x1)), (4, .int (zI v166))] rfl (c123_26  )
    · skip
      refine j_aload_n hx 2 dX12_wins_67 rfl ?_
      refine g13_27 hx hG ha kf_RX12_56 dX12_wins_68 ?_
      refine j_sipush hx dX12_wins_71 rfl ?_
      have f208 := zaQ (j := 493) hS_s20 (zr (k := 27) (t2 := 84) hG ha rfl) (congrArg some (axS_7 493 (by omega))) (zlen hG (zr (k := 27) (t2 := 84) hG ha rfl) (n := 515) rfl rfl) (show 0 ≤ 493 by omega) (by omega) rfl
      refine j_iald hx hG (zr (k := 27) (t2 := 84) hG ha rfl) (by decide) rfl (zlen hG (zr (k := 27) (t2 := 84) hG ha rfl) (n := 515) rfl rfl) (by omega) (by omega) (j := 493) rfl rfl dX12_wins_74 ?_
      refine j_iconst hx dX12_wins_75 ?_
      have c119_27 : JJ X E 6 G s20 0 0 [(0, .ref a), (1, .int (zI x1)), (4, .int (zI v166))] 119 [] := by
        refine j_iconst hx dX12_wins_119 ?_
        refine j_goto hx 124 dX12_wins_120 rfl ?_
        exact j_sub [0, 1, 2] [(0, .ref a), (1, .int (zI x1)), (4, .int (zI v166))] rfl (c124_21 1 (by omega))
      refine j_icmp_eq hx 119 dX12_wins_76 rfl (by omega) ⟨by decide, by decide⟩ (fun h209 => ?_) (fun h209 => ?_)
      · skip
        exact j_sub [2, 3, 0] [(0, .ref a), (1, .int (zI x1)), (4, .int (zI v166))] rfl (c119_27  )
      · skip
        refine j_aload_n hx 2 dX12_wins_79 rfl ?_
        refine g13_27 hx hG ha kf_RX12_56 dX12_wins_80 ?_
        refine j_sipush hx dX12_wins_83 rfl ?_
        refine j_iald hx hG (zr (k := 27) (t2 := 84) hG ha rfl) (by decide) rfl (zlen hG (zr (k := 27) (t2 := 84) hG ha rfl) (n := 515) rfl rfl) (by omega) (by omega) (j := 493) rfl rfl dX12_wins_86 ?_
        refine j_iconst hx dX12_wins_87 ?_
        refine j_icmp_ne hx 123 dX12_wins_88 rfl (by omega) ⟨by decide, by decide⟩ (fun h210 => ?_) (fun h210 => ?_)
        · skip
          exact j_sub [2, 3, 0] [(0, .ref a), (1, .int (zI x1)), (4, .int (zI v166))] rfl (c123_26  )
        · skip
          refine j_aload_n hx 2 dX12_wins_91 rfl ?_
          refine g13_19 hx hG ha kf_RX12_50 dX12_wins_92 ?_
          refine j_aload_n hx 2 dX12_wins_95 rfl ?_
          refine g13_27 hx hG ha kf_RX12_56 dX12_wins_96 ?_
          refine j_sipush hx dX12_wins_99 rfl ?_
          refine j_aload_n hx 2 dX12_wins_102 rfl ?_
          refine g13_27 hx hG ha kf_RX12_56 dX12_wins_103 ?_
          refine j_sipush hx dX12_wins_106 rfl ?_
          refine j_iald hx hG (zr (k := 27) (t2 := 84) hG ha rfl) (by decide) rfl (zlen hG (zr (k := 27) (t2 := 84) hG ha rfl) (n := 515) rfl rfl) (by omega) (by omega) (j := 486) rfl rfl dX12_wins_109 ?_
          refine j_iadd hx (r := (s20 (gP G a 27) 486) + 360) dX12_wins_110 (by omega) ?_
          refine j_iconst hx dX12_wins_111 ?_
          refine j_isub hx (r := (s20 (gP G a 27) 486) + 359) dX12_wins_112 (by omega) ?_
          have f211 := zaQ (j := ((s20 (gP G a 27) 486) + 359).toNat) hS_s20 (zr (k := 27) (t2 := 84) hG ha rfl) (congrArg some (axS_0 ((s20 (gP G a 27) 486) + 359).toNat (by omega))) (zlen hG (zr (k := 27) (t2 := 84) hG ha rfl) (n := 515) rfl rfl) (show 0 ≤ (s20 (gP G a 27) 486) + 359 by omega) (by omega) rfl
          refine j_iald hx hG (zr (k := 27) (t2 := 84) hG ha rfl) (by decide) rfl (zlen hG (zr (k := 27) (t2 := 84) hG ha rfl) (n := 515) rfl rfl) (by omega) (by omega) (j := ((s20 (gP G a 27) 486) + 359).toNat) rfl rfl dX12_wins_113 ?_
          have f212 := zaI (j := ((s20 (gP G a 27) ((s20 (gP G a 27) 486) + 359).toNat)).toNat) hS0 (zr (k := 19) (t2 := 82) hG ha rfl) rfl (zlen hG (zr (k := 19) (t2 := 82) hG ha rfl) (n := 60) rfl rfl) (show 0 ≤ (s20 (gP G a 27) ((s20 (gP G a 27) 486) + 359).toNat) by omega) (by omega) rfl
          refine j_iald hx hG (zr (k := 19) (t2 := 82) hG ha rfl) (by decide) rfl (zlen hG (zr (k := 19) (t2 := 82) hG ha rfl) (n := 60) rfl rfl) (by omega) (by omega) (j := ((s20 (gP G a 27) ((s20 (gP G a 27) 486) + 359).toNat)).toNat) rfl (v := (s0 (gP G a 19) ((s20 (gP G a 27) ((s20 (gP G a 27) 486) + 359).toNat)).toNat)) (by rw [(zFr_g hF_s20 (zr (k := 19) (t2 := 82) hG ha rfl) (by decide)), (zFr_g hF_s19 (zr (k := 19) (t2 := 82) hG ha rfl) (by decide))]) dX12_wins_114 ?_
          refine j_iload_n hx 1 dX12_wins_115 rfl ?_
          refine j_icmp_ne hx 123 dX12_wins_116 rfl (by omega) (by omega) (fun h213 => ?_) (fun h213 => ?_)
          · skip
            exact j_sub [2, 3, 0] [(0, .ref a), (1, .int (zI x1)), (4, .int (zI v166))] rfl (c123_26  )
          · skip
            exact j_sub [2, 3, 0] [(0, .ref a), (1, .int (zI x1)), (4, .int (zI v166))] rfl (c119_27  )

theorem lk_RX12_391 : LkV RX12 391 RX12 yX12_falls cX12_falls 4 none 1 := ⟨km_RX12_391, ki_yX12_falls, ks_RX12_yX12_falls, kn_RX12, kc_yX12_falls, rfl, by decide +kernel, by decide +kernel, by decide +kernel⟩
theorem lk_RX12_394 : LkV RX12 394 RX12 yX12_wins cX12_wins 6 (some .int) 2 := ⟨km_RX12_394, ki_yX12_wins, ks_RX12_yX12_wins, kn_RX12, kc_yX12_wins, rfl, by decide +kernel, by decide +kernel, by decide +kernel⟩
set_option maxHeartbeats 1200000 in
set_option maxRecDepth 20000 in
theorem c_X12_judges {E : zE} {l : Launch} (hst : l.stackTraces = false) (a : Nat) : Con E l yX12_judges cX12_judges 6 none { frames := 4, cells := 0, slots := 0, locals := 95 } (fun G s vs => vs = [.ref a] ∧ zGK G ∧ zSK G s ∧ (gT G a = 13) ∧ (zc (s (gP G a 27)) ≤ 60)) (fun G s _ => pV (fun G2 s2 => G2 = G ∧ zSK G s2 ∧ zFr [84, 87] G s s2 ∧ zc (s2 (gP G a 27)) = zc (s (gP G a 27)) ∧ s2 (gP G a 27) 488 = s (gP G a 27) 488)) := by
  refine Con.mk hst (by decide) (fun G s vs h => by rw [h.1]; exact Nat.le_of_ble_eq_true rfl) ?_
  rintro X G s0 vs ⟨rfl, hG, hS0, ha, e0⟩ rfl hx hq
  show JJ X E 6 G s0 0 0 [(0, .ref a)] 0 []
  refine j_iconst hx dX12_judges_0 ?_
  refine j_istore_n hx [(1, .int (zI (-1))), (0, .ref a)] dX12_judges_1 (by decide) rfl ?_
  refine j_iconst hx dX12_judges_2 ?_
  refine j_istore_n hx [(2, .int (zI 0)), (1, .int (zI (-1))), (0, .ref a)] dX12_judges_3 (by decide) rfl ?_
  refine j_iconst hx dX12_judges_4 ?_
  refine j_istore_n hx [(3, .int (zI 0)), (2, .int (zI 0)), (1, .int (zI (-1))), (0, .ref a)] dX12_judges_5 (by decide) rfl ?_
  refine j_iconst hx dX12_judges_6 ?_
  refine j_istore hx [(4, .int (zI 0)), (3, .int (zI 0)), (2, .int (zI 0)), (1, .int (zI (-1))), (0, .ref a)] dX12_judges_7 (by decide) rfl ?_
  have c9_1 : ∀ (m_c9_1 : Nat) (v1 : Int) (v2 : Int) (v3 : Int) (v4 : Int), 2147483648 - v4 < m_c9_1 → ((-1) ≤ v1 ∧ v1 ≤ 2) → ((-2147483648) ≤ v2 ∧ v2 ≤ 2147483647) → ((-2147483648) ≤ v3 ∧ v3 ≤ 2147483647) → (0 ≤ v4 ∧ v4 ≤ 3) → JJ X E 6 G s0 0 0 [(0, .ref a), (1, .int (zI v1)), (2, .int (zI v2)), (3, .int (zI v3)), (4, .int (zI v4))] 9 [] := by
    intro m_c9_1
    induction m_c9_1 with
    | zero => intro v1 v2 v3 v4 hm_c9_1 fA2 fA3 fA4 fA5; exfalso; omega
    | succ m_c9_1 ih_c9_1 => 
      intro v1 v2 v3 v4 hm_c9_1 fA2 fA3 fA4 fA5
      refine j_iload hx 4 dX12_judges_9 rfl ?_
      refine j_aload_n hx 0 dX12_judges_11 rfl ?_
      have f5 := zf hS0 ha (k := 24) rfl
      refine g13_24 hx hG ha kf_RX12_189 rfl dX12_judges_12 ?_
      refine j_icmp_ge hx 92 dX12_judges_15 rfl (by omega) (by omega) (fun h6 => ?_) (fun h6 => ?_)
      · skip
        refine j_iconst hx dX12_judges_92 ?_
        refine j_istore hx [(4, .int (zI 0)), (0, .ref a), (1, .int (zI v1)), (2, .int (zI v2)), (3, .int (zI v3))] dX12_judges_93 (by decide) rfl ?_
        have c95_6 : ∀ (m_c95_6 : Nat) (v7 : Int) (s7 : zS), 2147483648 - v7 < m_c95_6 → (0 ≤ v7 ∧ v7 ≤ 5) → (zSK G s7) → (zFr [87] G s0 s7) → JJ X E 6 G s7 0 0 [(0, .ref a), (1, .int (zI v1)), (2, .int (zI v2)), (3, .int (zI v3)), (4, .int (zI v7))] 95 [] := by
          intro m_c95_6
          induction m_c95_6 with
          | zero => intro v7 s7 hm_c95_6 fA8 hS_s7 hF_s7; exfalso; omega
          | succ m_c95_6 ih_c95_6 => 
            intro v7 s7 hm_c95_6 fA8 hS_s7 hF_s7
            refine j_iload hx 4 dX12_judges_95 rfl ?_
            refine j_iconst hx dX12_judges_97 ?_
            refine j_icmp_ge hx 125 dX12_judges_98 rfl (by omega) ⟨by decide, by decide⟩ (fun h8 => ?_) (fun h8 => ?_)
            · skip
              refine j_aload_n hx 0 dX12_judges_125 rfl ?_
              refine g13_30 hx hG ha kf_RX12_65 dX12_judges_126 ?_
              refine j_iconst hx dX12_judges_129 ?_
              refine j_iload_n hx 2 dX12_judges_130 rfl ?_
              refine j_iast hx hG (zr (k := 30) (t2 := 87) hG ha rfl) (by decide) rfl (zlen hG (zr (k := 30) (t2 := 87) hG ha rfl) (n := 5) rfl rfl) (by omega) (by omega) (j := 3) rfl dX12_judges_131 ?_
              obtain ⟨s11, e_s11⟩ : ∃ z, z = zU s7 (gP G a 30) 3 v2 := ⟨_, rfl⟩
              rw [← e_s11]
              have hS_s11 : zSK G s11 := by rw [e_s11]; exact zSK_A hS_s7 (zr (k := 30) (t2 := 87) hG ha rfl) rfl rfl rfl (by omega)
              refine j_iload_n hx 1 dX12_judges_132 rfl ?_
              refine j_iconst hx dX12_judges_133 ?_
              refine j_icmp_ne hx 138 dX12_judges_134 rfl (by omega) ⟨by decide, by decide⟩ (fun h9 => ?_) (fun h9 => ?_)
              · skip
                refine j_aload_n hx 0 dX12_judges_138 rfl ?_
                refine j_callV hx hG (c_X12_alikes hst a) lk_RX12_343 ha (by decide) rfl rfl rfl rfl [] ⟨rfl, hG, hS_s11, ha⟩ rfl rfl ⟨by decide, by decide⟩ ⟨by decide, by decide⟩ (k2 := 0) (n2 := 0) rfl rfl (Nat.le_of_ble_eq_true rfl) dX12_judges_139 (kIP (fun v10 q11 => ?_))
                refine j_istore hx [(4, .int (zI v10)), (0, .ref a), (1, .int (zI v1)), (2, .int (zI v2)), (3, .int (zI v3))] dX12_judges_142 (by decide) rfl ?_
                rcases (show v10 = (-1) ∨ v10 = 1 ∨ v10 = 2 ∨ v10 = 12 by omega) with rfl | rfl | rfl | rfl
                · skip
                  refine j_iload_n hx 4 dX12_judges_144 rfl ?_
                  refine j_iconst hx dX12_judges_145 ?_
                  have c250_12 : JJ X E 6 G s11 0 0 [(0, .ref a), (1, .int (zI v1)), (4, .int (zI (-1)))] 250 [] := by
                    refine j_aload_n hx 0 dX12_judges_250 rfl ?_
                    refine g13_30 hx hG ha kf_RX12_65 dX12_judges_251 ?_
                    refine j_iconst hx dX12_judges_254 ?_
                    refine j_iload_n hx 1 dX12_judges_255 rfl ?_
                    refine j_iast hx hG (zr (k := 30) (t2 := 87) hG ha rfl) (by decide) rfl (zlen hG (zr (k := 30) (t2 := 87) hG ha rfl) (n := 5) rfl rfl) (by omega) (by omega) (j := 1) rfl dX12_judges_256 ?_
                    obtain ⟨s13, e_s13⟩ : ∃ z, z = zU s11 (gP G a 30) 1 v1 := ⟨_, rfl⟩
                    rw [← e_s13]
                    have hS_s13 : zSK G s13 := by rw [e_s13]; exact zSK_A hS_s11 (zr (k := 30) (t2 := 87) hG ha rfl) rfl rfl rfl (by omega)
                    refine j_aload_n hx 0 dX12_judges_257 rfl ?_
                    refine g13_30 hx hG ha kf_RX12_65 dX12_judges_258 ?_
                    refine j_iconst hx dX12_judges_261 ?_
                    refine j_aload_n hx 0 dX12_judges_262 rfl ?_
                    refine g13_45 hx hG ha kf_RX12_99 dX12_judges_263 ?_
                    refine j_iload_n hx 1 dX12_judges_266 rfl ?_
                    have f12 := zaI (j := (v1).toNat) hS0 (zr (k := 45) (t2 := 98) hG ha rfl) rfl (zlen hG (zr (k := 45) (t2 := 98) hG ha rfl) (n := 3) rfl rfl) (show 0 ≤ v1 by omega) (by omega) rfl
                    refine j_iald hx hG (zr (k := 45) (t2 := 98) hG ha rfl) (by decide) rfl (zlen hG (zr (k := 45) (t2 := 98) hG ha rfl) (n := 3) rfl rfl) (by omega) (by omega) (j := (v1).toNat) rfl (v := (s0 (gP G a 45) (v1).toNat)) (by rw [e_s13, zU_at (Or.inl (zne (zr (k := 30) (t2 := 87) hG ha rfl) (zr (k := 45) (t2 := 98) hG ha rfl) (by decide))), e_s11, zU_at (Or.inl (zne (zr (k := 30) (t2 := 87) hG ha rfl) (zr (k := 45) (t2 := 98) hG ha rfl) (by decide))), (zFr_g hF_s7 (zr (k := 45) (t2 := 98) hG ha rfl) (by decide))]) dX12_judges_267 ?_
                    refine j_iast hx hG (zr (k := 30) (t2 := 87) hG ha rfl) (by decide) rfl (zlen hG (zr (k := 30) (t2 := 87) hG ha rfl) (n := 5) rfl rfl) (by omega) (by omega) (j := 2) rfl dX12_judges_268 ?_
                    obtain ⟨s14, e_s14⟩ : ∃ z, z = zU s13 (gP G a 30) 2 ((s0 (gP G a 45) (v1).toNat)) := ⟨_, rfl⟩
                    rw [← e_s14]
                    have hS_s14 : zSK G s14 := by rw [e_s14]; exact zSK_A hS_s13 (zr (k := 30) (t2 := 87) hG ha rfl) rfl rfl rfl (by omega)
                    refine j_iload hx 2 dX12_judges_269 rfl ?_
                    refine j_iconst hx dX12_judges_271 ?_
                    refine j_icmp_ne hx 287 dX12_judges_272 rfl ⟨by decide, by decide⟩ ⟨by decide, by decide⟩ (fun h13 => absurd h13 (by omega)) (fun h13 => ?_)
                    refine j_aload_n hx 0 dX12_judges_275 rfl ?_
                    refine j_iload_n hx 1 dX12_judges_276 rfl ?_
                    refine j_iconst hx dX12_judges_277 ?_
                    have g14 : zc (s14 (gP G a 27)) = zc (s0 (gP G a 27)) := by rw [e_s14, zU_ne (zne (zr (k := 30) (t2 := 87) hG ha rfl) (zr (k := 27) (t2 := 84) hG ha rfl) (by decide)), e_s13, zU_ne (zne (zr (k := 30) (t2 := 87) hG ha rfl) (zr (k := 27) (t2 := 84) hG ha rfl) (by decide)), e_s11, zU_ne (zne (zr (k := 30) (t2 := 87) hG ha rfl) (zr (k := 27) (t2 := 84) hG ha rfl) (by decide)), hF_s7 (gP G a 27) (by rw [(zr (k := 27) (t2 := 84) hG ha rfl)]; decide)]
                    have g15 : s14 (gP G a 27) 488 = s0 (gP G a 27) 488 := (by rw [e_s14, zU_at (Or.inl (zne (zr (k := 30) (t2 := 87) hG ha rfl) (zr (k := 27) (t2 := 84) hG ha rfl) (by decide))), e_s13, zU_at (Or.inl (zne (zr (k := 30) (t2 := 87) hG ha rfl) (zr (k := 27) (t2 := 84) hG ha rfl) (by decide))), e_s11, zU_at (Or.inl (zne (zr (k := 30) (t2 := 87) hG ha rfl) (zr (k := 27) (t2 := 84) hG ha rfl) (by decide))), (zFr_g hF_s7 (zr (k := 27) (t2 := 84) hG ha rfl) (by decide))])
                    refine j_callV hx hG (c_X12_counts hst a v1 3) lk_RX12_388 ha (by decide) rfl rfl rfl rfl [.int (zI v1), .int (zI 3)] ⟨rfl, hG, hS_s14, ha, (by omega), (by omega)⟩ rfl rfl ⟨by decide, by decide⟩ ⟨by decide, by decide⟩ (k2 := 0) (n2 := 0) rfl rfl (Nat.le_of_ble_eq_true rfl) dX12_judges_278 (kVM (fun s15 hS_s15 hF_s15 q17 => ?_))
                    refine j_aload_n hx 0 dX12_judges_281 rfl ?_
                    refine j_iload_n hx 1 dX12_judges_282 rfl ?_
                    refine j_callV hx hG (c_X12_falls hst a v1) lk_RX12_391 ha (by decide) rfl rfl rfl rfl [.int (zI v1)] ⟨rfl, hG, hS_s15, ha, (by omega), (by omega)⟩ rfl rfl ⟨by decide, by decide⟩ ⟨by decide, by decide⟩ (k2 := 0) (n2 := 0) rfl rfl (Nat.le_of_ble_eq_true rfl) dX12_judges_283 (kVM (fun s16 hS_s16 hF_s16 q19 => ?_))
                    exact j_vret hx hq rfl (by decide) (by decide) dX12_judges_286 ⟨rfl, rfl, hS_s16, (zFr_t (zFr_t (zFr_u (zFr_u (zFr_u (zFr_t zFr_rf hF_s7 (by decide)) e_s11 (zr (k := 30) (t2 := 87) hG ha rfl) (by decide)) e_s13 (zr (k := 30) (t2 := 87) hG ha rfl) (by decide)) e_s14 (zr (k := 30) (t2 := 87) hG ha rfl) (by decide)) hF_s15 (by decide)) hF_s16 (by decide)), ⟨by omega, by omega⟩⟩
                  refine j_icmp_le hx 250 dX12_judges_146 rfl (by omega) ⟨by decide, by decide⟩ (fun h20 => ?_) (fun h20 => ?_)
                  · skip
                    exact j_sub [1, 2, 0] [(0, .ref a), (1, .int (zI v1)), (4, .int (zI (-1)))] rfl (c250_12  )
                  · skip
                    refine j_aload_n hx 1 dX12_judges_149 rfl ?_
                    refine g13_27 hx hG ha kf_RX12_56 dX12_judges_150 ?_
                    refine j_sipush hx dX12_judges_153 rfl ?_
                    have f21 := zaQ (j := 492) hS0 (zr (k := 27) (t2 := 84) hG ha rfl) (congrArg some (axS_7 492 (by omega))) (zlen hG (zr (k := 27) (t2 := 84) hG ha rfl) (n := 515) rfl rfl) (show 0 ≤ 492 by omega) (by omega) rfl
                    refine j_iald hx hG (zr (k := 27) (t2 := 84) hG ha rfl) (by decide) rfl (zlen hG (zr (k := 27) (t2 := 84) hG ha rfl) (n := 515) rfl rfl) (by omega) (by omega) (j := 492) rfl (v := (s0 (gP G a 27) 492)) (by rw [e_s11, zU_at (Or.inl (zne (zr (k := 30) (t2 := 87) hG ha rfl) (zr (k := 27) (t2 := 84) hG ha rfl) (by decide))), (zFr_g hF_s7 (zr (k := 27) (t2 := 84) hG ha rfl) (by decide))]) dX12_judges_156 ?_
                    refine j_if_le hx 250 dX12_judges_157 rfl (by omega) (fun h22 => ?_) (fun h22 => ?_)
                    · skip
                      exact j_sub [1, 2, 0] [(0, .ref a), (1, .int (zI v1)), (4, .int (zI (-1)))] rfl (c250_12  )
                    · skip
                      refine j_iconst hx dX12_judges_160 ?_
                      refine j_istore hx [(5, .int (zI 0)), (4, .int (zI (-1))), (0, .ref a), (1, .int (zI v1)), (2, .int (zI v2)), (3, .int (zI v3))] dX12_judges_161 (by decide) rfl ?_
                      have g24 : s11 (gP G a 27) 488 = s0 (gP G a 27) 488 := (by rw [e_s11, zU_at (Or.inl (zne (zr (k := 30) (t2 := 87) hG ha rfl) (zr (k := 27) (t2 := 84) hG ha rfl) (by decide))), (zFr_g hF_s7 (zr (k := 27) (t2 := 84) hG ha rfl) (by decide))])
                      have g25 : zc (s11 (gP G a 27)) = zc (s0 (gP G a 27)) := by rw [e_s11, zU_ne (zne (zr (k := 30) (t2 := 87) hG ha rfl) (zr (k := 27) (t2 := 84) hG ha rfl) (by decide)), hF_s7 (gP G a 27) (by rw [(zr (k := 27) (t2 := 84) hG ha rfl)]; decide)]
                      have c163_17 : ∀ (m_c163_17 : Nat) (v23 : Int) (s18 : zS), 2147483648 - v23 < m_c163_17 → (0 ≤ v23 ∧ v23 ≤ 3) → (zSK G s18) → (zFr [84] G s11 s18) → (zc (s18 (gP G a 27)) = zc (s11 (gP G a 27))) → (s18 (gP G a 27) 488 = s11 (gP G a 27) 488) → JJ X E 6 G s18 0 0 [(0, .ref a), (1, .int (zI v1)), (4, .int (zI (-1))), (5, .int (zI v23))] 163 [] := by
                        intro m_c163_17
                        induction m_c163_17 with
                        | zero => intro v23 s18 hm_c163_17 fA19 hS_s18 hF_s18 fA22 fA23; exfalso; omega
                        | succ m_c163_17 ih_c163_17 => 
                          intro v23 s18 hm_c163_17 fA19 hS_s18 hF_s18 fA22 fA23
                          refine j_iload hx 3 dX12_judges_163 rfl ?_
                          refine j_aload_n hx 0 dX12_judges_165 rfl ?_
                          refine g13_24 hx hG ha kf_RX12_189 (v := (s0 a 24)) (by rw [(zFr_g hF_s18 ha (by decide)), e_s11, zU_at (Or.inl (zne (zr (k := 30) (t2 := 87) hG ha rfl) ha (by decide))), (zFr_g hF_s7 ha (by decide))]) dX12_judges_166 ?_
                          refine j_icmp_ge hx 201 dX12_judges_169 rfl (by omega) (by omega) (fun h26 => ?_) (fun h26 => ?_)
                          · skip
                            refine j_aload_n hx 0 dX12_judges_201 rfl ?_
                            refine g13_27 hx hG ha kf_RX12_56 dX12_judges_202 ?_
                            refine j_sipush hx dX12_judges_205 rfl ?_
                            have f27 := zaQ (j := 492) hS_s18 (zr (k := 27) (t2 := 84) hG ha rfl) (congrArg some (axS_7 492 (by omega))) (zlen hG (zr (k := 27) (t2 := 84) hG ha rfl) (n := 515) rfl rfl) (show 0 ≤ 492 by omega) (by omega) rfl
                            refine j_iald hx hG (zr (k := 27) (t2 := 84) hG ha rfl) (by decide) rfl (zlen hG (zr (k := 27) (t2 := 84) hG ha rfl) (n := 515) rfl rfl) (by omega) (by omega) (j := 492) rfl rfl dX12_judges_208 ?_
                            refine j_iconst hx dX12_judges_209 ?_
                            refine j_icmp_ne hx 249 dX12_judges_210 rfl (by omega) ⟨by decide, by decide⟩ (fun h28 => ?_) (fun h28 => ?_)
                            · skip
                              exact j_vret hx hq rfl (by decide) (by decide) dX12_judges_249 ⟨rfl, rfl, hS_s18, (zFr_t (zFr_u (zFr_t zFr_rf hF_s7 (by decide)) e_s11 (zr (k := 30) (t2 := 87) hG ha rfl) (by decide)) hF_s18 (by decide)), ⟨by omega, by omega⟩⟩
                            · skip
                              refine j_iload hx 2 dX12_judges_213 rfl ?_
                              refine j_iconst hx dX12_judges_215 ?_
                              refine j_icmp_eq hx 249 dX12_judges_216 rfl ⟨by decide, by decide⟩ ⟨by decide, by decide⟩ (fun h29 => ?_) (fun h29 => absurd h29 (by omega))
                              exact j_vret hx hq rfl (by decide) (by decide) dX12_judges_249 ⟨rfl, rfl, hS_s18, (zFr_t (zFr_u (zFr_t zFr_rf hF_s7 (by decide)) e_s11 (zr (k := 30) (t2 := 87) hG ha rfl) (by decide)) hF_s18 (by decide)), ⟨by omega, by omega⟩⟩
                          · skip
                            refine j_aload_n hx 0 dX12_judges_172 rfl ?_
                            refine g13_45 hx hG ha kf_RX12_99 dX12_judges_173 ?_
                            refine j_iload hx 3 dX12_judges_176 rfl ?_
                            have f30 := zaI (j := (v23).toNat) hS0 (zr (k := 45) (t2 := 98) hG ha rfl) rfl (zlen hG (zr (k := 45) (t2 := 98) hG ha rfl) (n := 3) rfl rfl) (show 0 ≤ v23 by omega) (by omega) rfl
                            refine j_iald hx hG (zr (k := 45) (t2 := 98) hG ha rfl) (by decide) rfl (zlen hG (zr (k := 45) (t2 := 98) hG ha rfl) (n := 3) rfl rfl) (by omega) (by omega) (j := (v23).toNat) rfl (v := (s0 (gP G a 45) (v23).toNat)) (by rw [(zFr_g hF_s18 (zr (k := 45) (t2 := 98) hG ha rfl) (by decide)), e_s11, zU_at (Or.inl (zne (zr (k := 30) (t2 := 87) hG ha rfl) (zr (k := 45) (t2 := 98) hG ha rfl) (by decide))), (zFr_g hF_s7 (zr (k := 45) (t2 := 98) hG ha rfl) (by decide))]) dX12_judges_178 ?_
                            refine j_aload_n hx 0 dX12_judges_179 rfl ?_
                            refine g13_45 hx hG ha kf_RX12_99 dX12_judges_180 ?_
                            refine j_iload_n hx 1 dX12_judges_183 rfl ?_
                            have f31 := zaI (j := (v1).toNat) hS0 (zr (k := 45) (t2 := 98) hG ha rfl) rfl (zlen hG (zr (k := 45) (t2 := 98) hG ha rfl) (n := 3) rfl rfl) (show 0 ≤ v1 by omega) (by omega) rfl
                            refine j_iald hx hG (zr (k := 45) (t2 := 98) hG ha rfl) (by decide) rfl (zlen hG (zr (k := 45) (t2 := 98) hG ha rfl) (n := 3) rfl rfl) (by omega) (by omega) (j := (v1).toNat) rfl (v := (s0 (gP G a 45) (v1).toNat)) (by rw [(zFr_g hF_s18 (zr (k := 45) (t2 := 98) hG ha rfl) (by decide)), e_s11, zU_at (Or.inl (zne (zr (k := 30) (t2 := 87) hG ha rfl) (zr (k := 45) (t2 := 98) hG ha rfl) (by decide))), (zFr_g hF_s7 (zr (k := 45) (t2 := 98) hG ha rfl) (by decide))]) dX12_judges_184 ?_
                            have c195_24 : ∀ (s25 : zS), (zSK G s25) → (zFr [84] G s18 s25) → (zc (s25 (gP G a 27)) = zc (s18 (gP G a 27))) → JJ X E 6 G s25 0 0 [(0, .ref a), (1, .int (zI v1)), (4, .int (zI (-1))), (5, .int (zI v23))] 195 [] := by
                              intro s25 hS_s25 hF_s25 fA28
                              refine j_iinc hx 3 [(5, .int (zI (v23 + 1))), (0, .ref a), (1, .int (zI v1)), (4, .int (zI (-1)))] dX12_judges_195 rfl (by omega) (by decide) rfl ?_
                              refine j_goto hx 163 dX12_judges_198 rfl ?_
                              exact j_sub [1, 2, 3, 0] [(0, .ref a), (1, .int (zI v1)), (4, .int (zI (-1))), (5, .int (zI (v23 + 1)))] rfl (ih_c163_17 (v23 + 1) s25 (by omega) (by omega) hS_s25 (zFr_t (zFr_t zFr_rf hF_s18 (by decide)) hF_s25 (by decide)) (by omega) (by omega))
                            refine j_icmp_ne hx 195 dX12_judges_185 rfl (by omega) (by omega) (fun h32 => ?_) (fun h32 => ?_)
                            · skip
                              exact j_sub [0, 1, 2, 3] [(0, .ref a), (1, .int (zI v1)), (4, .int (zI (-1))), (5, .int (zI v23))] rfl (c195_24 s18 hS_s18 zFr_rf (by omega))
                            · skip
                              refine j_aload_n hx 0 dX12_judges_188 rfl ?_
                              refine j_iload hx 3 dX12_judges_189 rfl ?_
                              refine j_iconst hx dX12_judges_191 ?_
                              refine j_callV hx hG (c_X12_counts hst a v23 4) lk_RX12_388 ha (by decide) rfl rfl rfl rfl [.int (zI v23), .int (zI 4)] ⟨rfl, hG, hS_s18, ha, (by omega), (by omega)⟩ rfl rfl ⟨by decide, by decide⟩ ⟨by decide, by decide⟩ (k2 := 0) (n2 := 0) rfl rfl (Nat.le_of_ble_eq_true rfl) dX12_judges_192 (kVM (fun s29 hS_s29 hF_s29 q34 => ?_))
                              exact j_sub [0, 1, 2, 3] [(0, .ref a), (1, .int (zI v1)), (4, .int (zI (-1))), (5, .int (zI v23))] rfl (c195_24 s29 hS_s29 (zFr_t zFr_rf hF_s29 (by decide)) (by omega))
                      exact j_sub [2, 3, 1, 0] [(0, .ref a), (1, .int (zI v1)), (4, .int (zI (-1))), (5, .int (zI 0))] rfl (c163_17 (2147483648 * 4) 0 s11 (by omega) (by omega) hS_s11 zFr_rf (by omega) (by omega))
                · skip
                  refine j_iload_n hx 4 dX12_judges_144 rfl ?_
                  refine j_iconst hx dX12_judges_145 ?_
                  have c250_30 : JJ X E 6 G s11 0 0 [(0, .ref a), (1, .int (zI v1)), (4, .int (zI 1))] 250 [] := by
                    refine j_aload_n hx 0 dX12_judges_250 rfl ?_
                    refine g13_30 hx hG ha kf_RX12_65 dX12_judges_251 ?_
                    refine j_iconst hx dX12_judges_254 ?_
                    refine j_iload_n hx 1 dX12_judges_255 rfl ?_
                    refine j_iast hx hG (zr (k := 30) (t2 := 87) hG ha rfl) (by decide) rfl (zlen hG (zr (k := 30) (t2 := 87) hG ha rfl) (n := 5) rfl rfl) (by omega) (by omega) (j := 1) rfl dX12_judges_256 ?_
                    obtain ⟨s31, e_s31⟩ : ∃ z, z = zU s11 (gP G a 30) 1 v1 := ⟨_, rfl⟩
                    rw [← e_s31]
                    have hS_s31 : zSK G s31 := by rw [e_s31]; exact zSK_A hS_s11 (zr (k := 30) (t2 := 87) hG ha rfl) rfl rfl rfl (by omega)
                    refine j_aload_n hx 0 dX12_judges_257 rfl ?_
                    refine g13_30 hx hG ha kf_RX12_65 dX12_judges_258 ?_
                    refine j_iconst hx dX12_judges_261 ?_
                    refine j_aload_n hx 0 dX12_judges_262 rfl ?_
                    refine g13_45 hx hG ha kf_RX12_99 dX12_judges_263 ?_
                    refine j_iload_n hx 1 dX12_judges_266 rfl ?_
                    have f35 := zaI (j := (v1).toNat) hS0 (zr (k := 45) (t2 := 98) hG ha rfl) rfl (zlen hG (zr (k := 45) (t2 := 98) hG ha rfl) (n := 3) rfl rfl) (show 0 ≤ v1 by omega) (by omega) rfl
                    refine j_iald hx hG (zr (k := 45) (t2 := 98) hG ha rfl) (by decide) rfl (zlen hG (zr (k := 45) (t2 := 98) hG ha rfl) (n := 3) rfl rfl) (by omega) (by omega) (j := (v1).toNat) rfl (v := (s0 (gP G a 45) (v1).toNat)) (by rw [e_s31, zU_at (Or.inl (zne (zr (k := 30) (t2 := 87) hG ha rfl) (zr (k := 45) (t2 := 98) hG ha rfl) (by decide))), e_s11, zU_at (Or.inl (zne (zr (k := 30) (t2 := 87) hG ha rfl) (zr (k := 45) (t2 := 98) hG ha rfl) (by decide))), (zFr_g hF_s7 (zr (k := 45) (t2 := 98) hG ha rfl) (by decide))]) dX12_judges_267 ?_
                    refine j_iast hx hG (zr (k := 30) (t2 := 87) hG ha rfl) (by decide) rfl (zlen hG (zr (k := 30) (t2 := 87) hG ha rfl) (n := 5) rfl rfl) (by omega) (by omega) (j := 2) rfl dX12_judges_268 ?_
                    obtain ⟨s32, e_s32⟩ : ∃ z, z = zU s31 (gP G a 30) 2 ((s0 (gP G a 45) (v1).toNat)) := ⟨_, rfl⟩
                    rw [← e_s32]
                    have hS_s32 : zSK G s32 := by rw [e_s32]; exact zSK_A hS_s31 (zr (k := 30) (t2 := 87) hG ha rfl) rfl rfl rfl (by omega)
                    refine j_iload hx 2 dX12_judges_269 rfl ?_
                    refine j_iconst hx dX12_judges_271 ?_
                    refine j_icmp_ne hx 287 dX12_judges_272 rfl ⟨by decide, by decide⟩ ⟨by decide, by decide⟩ (fun h36 => ?_) (fun h36 => absurd h36 (by omega))
                    refine j_aload_n hx 0 dX12_judges_287 rfl ?_
                    have f37 := zf hS0 ha (k := 44) rfl
                    refine g13_44 hx hG ha kf_RX12_377 (v := (s0 a 44)) (by rw [e_s32, zU_at (Or.inl (zne (zr (k := 30) (t2 := 87) hG ha rfl) ha (by decide))), e_s31, zU_at (Or.inl (zne (zr (k := 30) (t2 := 87) hG ha rfl) ha (by decide))), e_s11, zU_at (Or.inl (zne (zr (k := 30) (t2 := 87) hG ha rfl) ha (by decide))), (zFr_g hF_s7 ha (by decide))]) dX12_judges_288 ?_
                    have c312_33 : ∀ (v38 : Int), (0 ≤ v38 ∧ v38 ≤ 1) → JJ X E 6 G s32 0 0 [(0, .ref a), (1, .int (zI v1)), (4, .int (zI 1))] 312 [.int (zI v38)] := by
                      intro v38 fA34
                      refine j_istore hx [(5, .int (zI v38)), (0, .ref a), (1, .int (zI v1)), (4, .int (zI 1))] dX12_judges_312 (by decide) rfl ?_
                      refine j_aload_n hx 1 dX12_judges_314 rfl ?_
                      refine j_iload_n hx 2 dX12_judges_315 rfl ?_
                      refine j_aload_n hx 1 dX12_judges_316 rfl ?_
                      refine g13_45 hx hG ha kf_RX12_99 dX12_judges_317 ?_
                      refine j_iload_n hx 2 dX12_judges_320 rfl ?_
                      refine j_iald hx hG (zr (k := 45) (t2 := 98) hG ha rfl) (by decide) rfl (zlen hG (zr (k := 45) (t2 := 98) hG ha rfl) (n := 3) rfl rfl) (by omega) (by omega) (j := (v1).toNat) rfl (v := (s0 (gP G a 45) (v1).toNat)) (by rw [e_s32, zU_at (Or.inl (zne (zr (k := 30) (t2 := 87) hG ha rfl) (zr (k := 45) (t2 := 98) hG ha rfl) (by decide))), e_s31, zU_at (Or.inl (zne (zr (k := 30) (t2 := 87) hG ha rfl) (zr (k := 45) (t2 := 98) hG ha rfl) (by decide))), e_s11, zU_at (Or.inl (zne (zr (k := 30) (t2 := 87) hG ha rfl) (zr (k := 45) (t2 := 98) hG ha rfl) (by decide))), (zFr_g hF_s7 (zr (k := 45) (t2 := 98) hG ha rfl) (by decide))]) dX12_judges_321 ?_
                      have c339_35 : ∀ (v39 : Int), (0 ≤ v39 ∧ v39 ≤ 2) → JJ X E 6 G s32 0 0 [(0, .ref a), (1, .int (zI v1)), (4, .int (zI 1))] 339 [.int (zI v39), .int (zI v1), .ref a] := by
                        intro v39 fA36
                        have g40 : zc (s32 (gP G a 27)) = zc (s0 (gP G a 27)) := by rw [e_s32, zU_ne (zne (zr (k := 30) (t2 := 87) hG ha rfl) (zr (k := 27) (t2 := 84) hG ha rfl) (by decide)), e_s31, zU_ne (zne (zr (k := 30) (t2 := 87) hG ha rfl) (zr (k := 27) (t2 := 84) hG ha rfl) (by decide)), e_s11, zU_ne (zne (zr (k := 30) (t2 := 87) hG ha rfl) (zr (k := 27) (t2 := 84) hG ha rfl) (by decide)), hF_s7 (gP G a 27) (by rw [(zr (k := 27) (t2 := 84) hG ha rfl)]; decide)]
                        have g41 : s32 (gP G a 27) 488 = s0 (gP G a 27) 488 := (by rw [e_s32, zU_at (Or.inl (zne (zr (k := 30) (t2 := 87) hG ha rfl) (zr (k := 27) (t2 := 84) hG ha rfl) (by decide))), e_s31, zU_at (Or.inl (zne (zr (k := 30) (t2 := 87) hG ha rfl) (zr (k := 27) (t2 := 84) hG ha rfl) (by decide))), e_s11, zU_at (Or.inl (zne (zr (k := 30) (t2 := 87) hG ha rfl) (zr (k := 27) (t2 := 84) hG ha rfl) (by decide))), (zFr_g hF_s7 (zr (k := 27) (t2 := 84) hG ha rfl) (by decide))])
                        refine j_callV hx hG (c_X12_counts hst a v1 v39) lk_RX12_388 ha (by decide) rfl rfl rfl rfl [.int (zI v1), .int (zI v39)] ⟨rfl, hG, hS_s32, ha, (by omega), (by omega)⟩ rfl rfl ⟨by decide, by decide⟩ ⟨by decide, by decide⟩ (k2 := 0) (n2 := 0) rfl rfl (Nat.le_of_ble_eq_true rfl) dX12_judges_339 (kVM (fun s37 hS_s37 hF_s37 q43 => ?_))
                        refine j_aload_n hx 0 dX12_judges_342 rfl ?_
                        refine g13_30 hx hG ha kf_RX12_65 dX12_judges_343 ?_
                        refine j_iconst hx dX12_judges_346 ?_
                        refine j_iload_n hx 1 dX12_judges_347 rfl ?_
                        refine j_iast hx hG (zr (k := 30) (t2 := 87) hG ha rfl) (by decide) rfl (zlen hG (zr (k := 30) (t2 := 87) hG ha rfl) (n := 5) rfl rfl) (by omega) (by omega) (j := 0) rfl dX12_judges_348 ?_
                        obtain ⟨s38, e_s38⟩ : ∃ z, z = zU s37 (gP G a 30) 0 v1 := ⟨_, rfl⟩
                        rw [← e_s38]
                        have hS_s38 : zSK G s38 := by rw [e_s38]; exact zSK_A hS_s37 (zr (k := 30) (t2 := 87) hG ha rfl) rfl rfl rfl (by omega)
                        refine j_aload_n hx 0 dX12_judges_349 rfl ?_
                        refine g13_30 hx hG ha kf_RX12_65 dX12_judges_350 ?_
                        refine j_iconst hx dX12_judges_353 ?_
                        refine j_aload_n hx 0 dX12_judges_354 rfl ?_
                        refine j_iload_n hx 1 dX12_judges_355 rfl ?_
                        refine j_iload hx 2 dX12_judges_356 rfl ?_
                        have g44 : zc (s38 (gP G a 27)) = zc (s37 (gP G a 27)) := by rw [e_s38, zU_ne (zne (zr (k := 30) (t2 := 87) hG ha rfl) (zr (k := 27) (t2 := 84) hG ha rfl) (by decide))]
                        have g45 : s38 (gP G a 27) 488 = s37 (gP G a 27) 488 := (by rw [e_s38, zU_at (Or.inl (zne (zr (k := 30) (t2 := 87) hG ha rfl) (zr (k := 27) (t2 := 84) hG ha rfl) (by decide)))])
                        refine j_callV hx hG (c_X12_wins hst a v1 1) lk_RX12_394 ha (by decide) rfl rfl rfl rfl [.int (zI v1), .int (zI 1)] ⟨rfl, hG, hS_s38, ha, (by omega), (by omega), (by omega), (by omega)⟩ rfl rfl ⟨by decide, by decide⟩ ⟨by decide, by decide⟩ (k2 := 0) (n2 := 0) rfl rfl (Nat.le_of_ble_eq_true rfl) dX12_judges_358 (kIM (fun v46 s39 hS_s39 hF_s39 q47 => ?_))
                        refine j_iast hx hG (zr (k := 30) (t2 := 87) hG ha rfl) (by decide) rfl (zlen hG (zr (k := 30) (t2 := 87) hG ha rfl) (n := 5) rfl rfl) (by omega) (by omega) (j := 4) rfl dX12_judges_361 ?_
                        obtain ⟨s40, e_s40⟩ : ∃ z, z = zU s39 (gP G a 30) 4 v46 := ⟨_, rfl⟩
                        rw [← e_s40]
                        have hS_s40 : zSK G s40 := by rw [e_s40]; exact zSK_A hS_s39 (zr (k := 30) (t2 := 87) hG ha rfl) rfl rfl rfl (by omega)
                        refine j_aload_n hx 0 dX12_judges_362 rfl ?_
                        refine g13_27 hx hG ha kf_RX12_56 dX12_judges_363 ?_
                        refine j_sipush hx dX12_judges_366 rfl ?_
                        refine j_iload_n hx 1 dX12_judges_369 rfl ?_
                        refine j_iadd hx (r := v1 + 512) dX12_judges_370 (by omega) ?_
                        refine j_dup2 hx dX12_judges_371 rfl rfl ?_
                        have f48 := zaQ (j := (v1 + 512).toNat) hS_s39 (zr (k := 27) (t2 := 84) hG ha rfl) (congrArg some (axS_8 (v1 + 512).toNat (by omega))) (zlen hG (zr (k := 27) (t2 := 84) hG ha rfl) (n := 515) rfl rfl) (show 0 ≤ v1 + 512 by omega) (by omega) rfl
                        refine j_iald hx hG (zr (k := 27) (t2 := 84) hG ha rfl) (by decide) rfl (zlen hG (zr (k := 27) (t2 := 84) hG ha rfl) (n := 515) rfl rfl) (by omega) (by omega) (j := (v1 + 512).toNat) rfl (v := (s39 (gP G a 27) (v1 + 512).toNat)) (by rw [e_s40, zU_at (Or.inl (zne (zr (k := 30) (t2 := 87) hG ha rfl) (zr (k := 27) (t2 := 84) hG ha rfl) (by decide)))]) dX12_judges_372 ?_
                        refine j_aload_n hx 0 dX12_judges_373 rfl ?_
                        refine g13_30 hx hG ha kf_RX12_65 dX12_judges_374 ?_
                        refine j_iconst hx dX12_judges_377 ?_
                        refine j_iald hx hG (zr (k := 30) (t2 := 87) hG ha rfl) (by decide) rfl (zlen hG (zr (k := 30) (t2 := 87) hG ha rfl) (n := 5) rfl rfl) (by omega) (by omega) (j := 4) rfl (v := v46) (by rw [e_s40, zU_eq]) dX12_judges_378 ?_
                        refine j_iadd hx (r := (s39 (gP G a 27) (v1 + 512).toNat) + v46) dX12_judges_379 (by omega) ?_
                        refine j_norm (fun v49 f50 f51 f52 => ?_)
                        refine j_iast hx hG (zr (k := 27) (t2 := 84) hG ha rfl) (by decide) rfl (zlen hG (zr (k := 27) (t2 := 84) hG ha rfl) (n := 515) rfl rfl) (by omega) (by omega) (j := (v1 + 512).toNat) rfl dX12_judges_380 ?_
                        obtain ⟨s41, e_s41⟩ : ∃ z, z = zU s40 (gP G a 27) (v1 + 512).toNat v49 := ⟨_, rfl⟩
                        rw [← e_s41]
                        have hS_s41 : zSK G s41 := by rw [e_s41]; exact zSK_a hS_s40 (zr (k := 27) (t2 := 84) hG ha rfl) rfl rfl (congrArg some (axS_8 (v1 + 512).toNat (by omega))) (by omega)
                        have g54 : zc (s40 (gP G a 27)) = zc (s39 (gP G a 27)) := by rw [e_s40, zU_ne (zne (zr (k := 30) (t2 := 87) hG ha rfl) (zr (k := 27) (t2 := 84) hG ha rfl) (by decide))]
                        have z53 : zc (s41 (gP G a 27)) = zc (s40 (gP G a 27)) := by rw [e_s41]; exact zc_o (by omega)
                        have g55 : s41 (gP G a 27) 488 = s39 (gP G a 27) 488 := (by rw [e_s41, zU_at (Or.inr (by omega)), e_s40, zU_at (Or.inl (zne (zr (k := 30) (t2 := 87) hG ha rfl) (zr (k := 27) (t2 := 84) hG ha rfl) (by decide)))])
                        exact j_vret hx hq rfl (by decide) (by decide) dX12_judges_381 ⟨rfl, rfl, hS_s41, (zFr_u (zFr_u (zFr_t (zFr_u (zFr_t (zFr_u (zFr_u (zFr_u (zFr_t zFr_rf hF_s7 (by decide)) e_s11 (zr (k := 30) (t2 := 87) hG ha rfl) (by decide)) e_s31 (zr (k := 30) (t2 := 87) hG ha rfl) (by decide)) e_s32 (zr (k := 30) (t2 := 87) hG ha rfl) (by decide)) hF_s37 (by decide)) e_s38 (zr (k := 30) (t2 := 87) hG ha rfl) (by decide)) hF_s39 (by decide)) e_s40 (zr (k := 30) (t2 := 87) hG ha rfl) (by decide)) e_s41 (zr (k := 27) (t2 := 84) hG ha rfl) (by decide)), ⟨by omega, by omega⟩⟩
                      refine j_if_lt hx 329 dX12_judges_322 rfl (by omega) (fun h56 => ?_) (fun h56 => ?_)
                      · skip
                        refine j_iload hx 0 dX12_judges_329 rfl ?_
                        refine j_if_eq hx 338 dX12_judges_331 rfl (by omega) (fun h57 => ?_) (fun h57 => ?_)
                        · skip
                          refine j_iconst hx dX12_judges_338 ?_
                          exact j_sub [1, 2, 3] [(0, .ref a), (1, .int (zI v1)), (4, .int (zI 1))] rfl (c339_35 1 (by omega))
                        · skip
                          refine j_iconst hx dX12_judges_334 ?_
                          refine j_goto hx 339 dX12_judges_335 rfl ?_
                          exact j_sub [1, 2, 3] [(0, .ref a), (1, .int (zI v1)), (4, .int (zI 1))] rfl (c339_35 2 (by omega))
                      · skip
                        refine j_iconst hx dX12_judges_325 ?_
                        refine j_goto hx 339 dX12_judges_326 rfl ?_
                        exact j_sub [1, 2, 3] [(0, .ref a), (1, .int (zI v1)), (4, .int (zI 1))] rfl (c339_35 0 (by omega))
                    have c311_42 : JJ X E 6 G s32 0 0 [(0, .ref a), (1, .int (zI v1)), (4, .int (zI 1))] 311 [] := by
                      refine j_iconst hx dX12_judges_311 ?_
                      exact j_sub [0, 1, 2] [(0, .ref a), (1, .int (zI v1)), (4, .int (zI 1))] rfl (c312_33 0 (by omega))
                    refine j_if_eq hx 311 dX12_judges_291 rfl (by omega) (fun h58 => ?_) (fun h58 => ?_)
                    · skip
                      exact j_sub [0, 1, 2] [(0, .ref a), (1, .int (zI v1)), (4, .int (zI 1))] rfl (c311_42  )
                    · skip
                      refine j_aload_n hx 0 dX12_judges_294 rfl ?_
                      refine g13_17 hx hG ha kf_RX12_44 dX12_judges_295 ?_
                      refine j_iconst hx dX12_judges_298 ?_
                      refine j_iload_n hx 1 dX12_judges_299 rfl ?_
                      refine j_imul hx (r := 4 * v1) dX12_judges_300 rfl ?_
                      refine j_iconst hx dX12_judges_301 ?_
                      refine j_iadd hx (r := 4 * v1 + 1) dX12_judges_302 (by omega) ?_
                      have f59 := zaI (j := (4 * v1 + 1).toNat) hS0 (zr (k := 17) (t2 := 80) hG ha rfl) rfl (zlen hG (zr (k := 17) (t2 := 80) hG ha rfl) (n := 12) rfl rfl) (show 0 ≤ 4 * v1 + 1 by omega) (by omega) rfl
                      refine j_iald hx hG (zr (k := 17) (t2 := 80) hG ha rfl) (by decide) rfl (zlen hG (zr (k := 17) (t2 := 80) hG ha rfl) (n := 12) rfl rfl) (by omega) (by omega) (j := (4 * v1 + 1).toNat) rfl (v := (s0 (gP G a 17) (4 * v1 + 1).toNat)) (by rw [e_s32, zU_at (Or.inl (zne (zr (k := 30) (t2 := 87) hG ha rfl) (zr (k := 17) (t2 := 80) hG ha rfl) (by decide))), e_s31, zU_at (Or.inl (zne (zr (k := 30) (t2 := 87) hG ha rfl) (zr (k := 17) (t2 := 80) hG ha rfl) (by decide))), e_s11, zU_at (Or.inl (zne (zr (k := 30) (t2 := 87) hG ha rfl) (zr (k := 17) (t2 := 80) hG ha rfl) (by decide))), (zFr_g hF_s7 (zr (k := 17) (t2 := 80) hG ha rfl) (by decide))]) dX12_judges_303 ?_
                      refine j_if_le hx 311 dX12_judges_304 rfl (by omega) (fun h60 => ?_) (fun h60 => ?_)
                      · skip
                        exact j_sub [0, 1, 2] [(0, .ref a), (1, .int (zI v1)), (4, .int (zI 1))] rfl (c311_42  )
                      · skip
                        refine j_iconst hx dX12_judges_307 ?_
                        refine j_goto hx 312 dX12_judges_308 rfl ?_
                        exact j_sub [0, 1, 2] [(0, .ref a), (1, .int (zI v1)), (4, .int (zI 1))] rfl (c312_33 1 (by omega))
                  refine j_icmp_le hx 250 dX12_judges_146 rfl (by omega) ⟨by decide, by decide⟩ (fun h61 => ?_) (fun h61 => ?_)
                  · skip
                    exact j_sub [1, 2, 0] [(0, .ref a), (1, .int (zI v1)), (4, .int (zI 1))] rfl (c250_30  )
                  · skip
                    refine j_aload_n hx 1 dX12_judges_149 rfl ?_
                    refine g13_27 hx hG ha kf_RX12_56 dX12_judges_150 ?_
                    refine j_sipush hx dX12_judges_153 rfl ?_
                    have f62 := zaQ (j := 492) hS0 (zr (k := 27) (t2 := 84) hG ha rfl) (congrArg some (axS_7 492 (by omega))) (zlen hG (zr (k := 27) (t2 := 84) hG ha rfl) (n := 515) rfl rfl) (show 0 ≤ 492 by omega) (by omega) rfl
                    refine j_iald hx hG (zr (k := 27) (t2 := 84) hG ha rfl) (by decide) rfl (zlen hG (zr (k := 27) (t2 := 84) hG ha rfl) (n := 515) rfl rfl) (by omega) (by omega) (j := 492) rfl (v := (s0 (gP G a 27) 492)) (by rw [e_s11, zU_at (Or.inl (zne (zr (k := 30) (t2 := 87) hG ha rfl) (zr (k := 27) (t2 := 84) hG ha rfl) (by decide))), (zFr_g hF_s7 (zr (k := 27) (t2 := 84) hG ha rfl) (by decide))]) dX12_judges_156 ?_
                    refine j_if_le hx 250 dX12_judges_157 rfl (by omega) (fun h63 => ?_) (fun h63 => ?_)
                    · skip
                      exact j_sub [1, 2, 0] [(0, .ref a), (1, .int (zI v1)), (4, .int (zI 1))] rfl (c250_30  )
                    · skip
                      refine j_iconst hx dX12_judges_160 ?_
                      refine j_istore hx [(5, .int (zI 0)), (4, .int (zI 1)), (0, .ref a), (1, .int (zI v1)), (2, .int (zI v2)), (3, .int (zI v3))] dX12_judges_161 (by decide) rfl ?_
                      have g65 : s11 (gP G a 27) 488 = s0 (gP G a 27) 488 := (by rw [e_s11, zU_at (Or.inl (zne (zr (k := 30) (t2 := 87) hG ha rfl) (zr (k := 27) (t2 := 84) hG ha rfl) (by decide))), (zFr_g hF_s7 (zr (k := 27) (t2 := 84) hG ha rfl) (by decide))])
                      have g66 : zc (s11 (gP G a 27)) = zc (s0 (gP G a 27)) := by rw [e_s11, zU_ne (zne (zr (k := 30) (t2 := 87) hG ha rfl) (zr (k := 27) (t2 := 84) hG ha rfl) (by decide)), hF_s7 (gP G a 27) (by rw [(zr (k := 27) (t2 := 84) hG ha rfl)]; decide)]
                      have c163_43 : ∀ (m_c163_43 : Nat) (v64 : Int) (s44 : zS), 2147483648 - v64 < m_c163_43 → (0 ≤ v64 ∧ v64 ≤ 3) → (zSK G s44) → (zFr [84] G s11 s44) → (zc (s44 (gP G a 27)) = zc (s11 (gP G a 27))) → (s44 (gP G a 27) 488 = s11 (gP G a 27) 488) → JJ X E 6 G s44 0 0 [(0, .ref a), (1, .int (zI v1)), (4, .int (zI 1)), (5, .int (zI v64))] 163 [] := by
                        intro m_c163_43
                        induction m_c163_43 with
                        | zero => intro v64 s44 hm_c163_43 fA45 hS_s44 hF_s44 fA48 fA49; exfalso; omega
                        | succ m_c163_43 ih_c163_43 => 
                          intro v64 s44 hm_c163_43 fA45 hS_s44 hF_s44 fA48 fA49
                          refine j_iload hx 3 dX12_judges_163 rfl ?_
                          refine j_aload_n hx 0 dX12_judges_165 rfl ?_
                          refine g13_24 hx hG ha kf_RX12_189 (v := (s0 a 24)) (by rw [(zFr_g hF_s44 ha (by decide)), e_s11, zU_at (Or.inl (zne (zr (k := 30) (t2 := 87) hG ha rfl) ha (by decide))), (zFr_g hF_s7 ha (by decide))]) dX12_judges_166 ?_
                          refine j_icmp_ge hx 201 dX12_judges_169 rfl (by omega) (by omega) (fun h67 => ?_) (fun h67 => ?_)
                          · skip
                            refine j_aload_n hx 0 dX12_judges_201 rfl ?_
                            refine g13_27 hx hG ha kf_RX12_56 dX12_judges_202 ?_
                            refine j_sipush hx dX12_judges_205 rfl ?_
                            have f68 := zaQ (j := 492) hS_s44 (zr (k := 27) (t2 := 84) hG ha rfl) (congrArg some (axS_7 492 (by omega))) (zlen hG (zr (k := 27) (t2 := 84) hG ha rfl) (n := 515) rfl rfl) (show 0 ≤ 492 by omega) (by omega) rfl
                            refine j_iald hx hG (zr (k := 27) (t2 := 84) hG ha rfl) (by decide) rfl (zlen hG (zr (k := 27) (t2 := 84) hG ha rfl) (n := 515) rfl rfl) (by omega) (by omega) (j := 492) rfl rfl dX12_judges_208 ?_
                            refine j_iconst hx dX12_judges_209 ?_
                            refine j_icmp_ne hx 249 dX12_judges_210 rfl (by omega) ⟨by decide, by decide⟩ (fun h69 => ?_) (fun h69 => ?_)
                            · skip
                              exact j_vret hx hq rfl (by decide) (by decide) dX12_judges_249 ⟨rfl, rfl, hS_s44, (zFr_t (zFr_u (zFr_t zFr_rf hF_s7 (by decide)) e_s11 (zr (k := 30) (t2 := 87) hG ha rfl) (by decide)) hF_s44 (by decide)), ⟨by omega, by omega⟩⟩
                            · skip
                              refine j_iload hx 2 dX12_judges_213 rfl ?_
                              refine j_iconst hx dX12_judges_215 ?_
                              refine j_icmp_eq hx 249 dX12_judges_216 rfl ⟨by decide, by decide⟩ ⟨by decide, by decide⟩ (fun h70 => absurd h70 (by omega)) (fun h70 => ?_)
                              refine j_aload_n hx 0 dX12_judges_219 rfl ?_
                              refine j_iload hx 2 dX12_judges_220 rfl ?_
                              refine j_bipush hx dX12_judges_222 rfl ?_
                              refine j_idiv hx dX12_judges_224 ⟨by decide, by decide⟩ ⟨by decide, by decide⟩ (by decide) (fun v71 f72 f73 f74 => ?_)
                              refine j_sipush hx dX12_judges_225 rfl ?_
                              refine j_sipush hx dX12_judges_228 rfl ?_
                              refine j_callV hx hG (c_X12_comes hst a v71 360 486) lk_RX12_365 ha (by decide) rfl rfl rfl rfl [.int (zI v71), .int (zI 360), .int (zI 486)] ⟨rfl, hG, hS_s44, ha, (by omega), (by omega), (by omega), (by omega), (by omega)⟩ rfl rfl ⟨by decide, by decide⟩ ⟨by decide, by decide⟩ (k2 := 0) (n2 := 0) rfl rfl (Nat.le_of_ble_eq_true rfl) dX12_judges_231 (kVM (fun s50 hS_s50 hF_s50 q78 => ?_))
                              refine j_aload_n hx 0 dX12_judges_234 rfl ?_
                              refine j_iload hx 2 dX12_judges_235 rfl ?_
                              refine j_bipush hx dX12_judges_237 rfl ?_
                              refine j_irem hx dX12_judges_239 ⟨by decide, by decide⟩ ⟨by decide, by decide⟩ (by decide) (fun v79 f80 f81 f82 f83 => ?_)
                              refine j_sipush hx dX12_judges_240 rfl ?_
                              refine j_sipush hx dX12_judges_243 rfl ?_
                              refine j_callV hx hG (c_X12_comes hst a v79 360 486) lk_RX12_365 ha (by decide) rfl rfl rfl rfl [.int (zI v79), .int (zI 360), .int (zI 486)] ⟨rfl, hG, hS_s50, ha, (by omega), (by omega), (by omega), (by omega), (by omega)⟩ rfl rfl ⟨by decide, by decide⟩ ⟨by decide, by decide⟩ (k2 := 0) (n2 := 0) rfl rfl (Nat.le_of_ble_eq_true rfl) dX12_judges_246 (kVM (fun s51 hS_s51 hF_s51 q86 => ?_))
                              exact j_vret hx hq rfl (by decide) (by decide) dX12_judges_249 ⟨rfl, rfl, hS_s51, (zFr_t (zFr_t (zFr_t (zFr_u (zFr_t zFr_rf hF_s7 (by decide)) e_s11 (zr (k := 30) (t2 := 87) hG ha rfl) (by decide)) hF_s44 (by decide)) hF_s50 (by decide)) hF_s51 (by decide)), ⟨by omega, by omega⟩⟩
                          · skip
                            refine j_aload_n hx 0 dX12_judges_172 rfl ?_
                            refine g13_45 hx hG ha kf_RX12_99 dX12_judges_173 ?_
                            refine j_iload hx 3 dX12_judges_176 rfl ?_
                            have f87 := zaI (j := (v64).toNat) hS0 (zr (k := 45) (t2 := 98) hG ha rfl) rfl (zlen hG (zr (k := 45) (t2 := 98) hG ha rfl) (n := 3) rfl rfl) (show 0 ≤ v64 by omega) (by omega) rfl
                            refine j_iald hx hG (zr (k := 45) (t2 := 98) hG ha rfl) (by decide) rfl (zlen hG (zr (k := 45) (t2 := 98) hG ha rfl) (n := 3) rfl rfl) (by omega) (by omega) (j := (v64).toNat) rfl (v := (s0 (gP G a 45) (v64).toNat)) (by rw [(zFr_g hF_s44 (zr (k := 45) (t2 := 98) hG ha rfl) (by decide)), e_s11, zU_at (Or.inl (zne (zr (k := 30) (t2 := 87) hG ha rfl) (zr (k := 45) (t2 := 98) hG ha rfl) (by decide))), (zFr_g hF_s7 (zr (k := 45) (t2 := 98) hG ha rfl) (by decide))]) dX12_judges_178 ?_
                            refine j_aload_n hx 0 dX12_judges_179 rfl ?_
                            refine g13_45 hx hG ha kf_RX12_99 dX12_judges_180 ?_
                            refine j_iload_n hx 1 dX12_judges_183 rfl ?_
                            have f88 := zaI (j := (v1).toNat) hS0 (zr (k := 45) (t2 := 98) hG ha rfl) rfl (zlen hG (zr (k := 45) (t2 := 98) hG ha rfl) (n := 3) rfl rfl) (show 0 ≤ v1 by omega) (by omega) rfl
                            refine j_iald hx hG (zr (k := 45) (t2 := 98) hG ha rfl) (by decide) rfl (zlen hG (zr (k := 45) (t2 := 98) hG ha rfl) (n := 3) rfl rfl) (by omega) (by omega) (j := (v1).toNat) rfl (v := (s0 (gP G a 45) (v1).toNat)) (by rw [(zFr_g hF_s44 (zr (k := 45) (t2 := 98) hG ha rfl) (by decide)), e_s11, zU_at (Or.inl (zne (zr (k := 30) (t2 := 87) hG ha rfl) (zr (k := 45) (t2 := 98) hG ha rfl) (by decide))), (zFr_g hF_s7 (zr (k := 45) (t2 := 98) hG ha rfl) (by decide))]) dX12_judges_184 ?_
                            have c195_52 : ∀ (s53 : zS), (zSK G s53) → (zFr [84] G s44 s53) → (zc (s53 (gP G a 27)) = zc (s44 (gP G a 27))) → JJ X E 6 G s53 0 0 [(0, .ref a), (1, .int (zI v1)), (4, .int (zI 1)), (5, .int (zI v64))] 195 [] := by
                              intro s53 hS_s53 hF_s53 fA56
                              refine j_iinc hx 3 [(5, .int (zI (v64 + 1))), (0, .ref a), (1, .int (zI v1)), (4, .int (zI 1))] dX12_judges_195 rfl (by omega) (by decide) rfl ?_
                              refine j_goto hx 163 dX12_judges_198 rfl ?_
                              exact j_sub [1, 2, 3, 0] [(0, .ref a), (1, .int (zI v1)), (4, .int (zI 1)), (5, .int (zI (v64 + 1)))] rfl (ih_c163_43 (v64 + 1) s53 (by omega) (by omega) hS_s53 (zFr_t (zFr_t zFr_rf hF_s44 (by decide)) hF_s53 (by decide)) (by omega) (by omega))
                            refine j_icmp_ne hx 195 dX12_judges_185 rfl (by omega) (by omega) (fun h89 => ?_) (fun h89 => ?_)
                            · skip
                              exact j_sub [0, 1, 2, 3] [(0, .ref a), (1, .int (zI v1)), (4, .int (zI 1)), (5, .int (zI v64))] rfl (c195_52 s44 hS_s44 zFr_rf (by omega))
                            · skip
                              refine j_aload_n hx 0 dX12_judges_188 rfl ?_
                              refine j_iload hx 3 dX12_judges_189 rfl ?_
                              refine j_iconst hx dX12_judges_191 ?_
                              refine j_callV hx hG (c_X12_counts hst a v64 4) lk_RX12_388 ha (by decide) rfl rfl rfl rfl [.int (zI v64), .int (zI 4)] ⟨rfl, hG, hS_s44, ha, (by omega), (by omega)⟩ rfl rfl ⟨by decide, by decide⟩ ⟨by decide, by decide⟩ (k2 := 0) (n2 := 0) rfl rfl (Nat.le_of_ble_eq_true rfl) dX12_judges_192 (kVM (fun s57 hS_s57 hF_s57 q91 => ?_))
                              exact j_sub [0, 1, 2, 3] [(0, .ref a), (1, .int (zI v1)), (4, .int (zI 1)), (5, .int (zI v64))] rfl (c195_52 s57 hS_s57 (zFr_t zFr_rf hF_s57 (by decide)) (by omega))
                      exact j_sub [2, 3, 1, 0] [(0, .ref a), (1, .int (zI v1)), (4, .int (zI 1)), (5, .int (zI 0))] rfl (c163_43 (2147483648 * 4) 0 s11 (by omega) (by omega) hS_s11 zFr_rf (by omega) (by omega))
                · skip
                  refine j_iload_n hx 4 dX12_judges_144 rfl ?_
                  refine j_iconst hx dX12_judges_145 ?_
                  have c250_58 : JJ X E 6 G s11 0 0 [(0, .ref a), (1, .int (zI v1)), (4, .int (zI 2))] 250 [] := by
                    refine j_aload_n hx 0 dX12_judges_250 rfl ?_
                    refine g13_30 hx hG ha kf_RX12_65 dX12_judges_251 ?_
                    refine j_iconst hx dX12_judges_254 ?_
                    refine j_iload_n hx 1 dX12_judges_255 rfl ?_
                    refine j_iast hx hG (zr (k := 30) (t2 := 87) hG ha rfl) (by decide) rfl (zlen hG (zr (k := 30) (t2 := 87) hG ha rfl) (n := 5) rfl rfl) (by omega) (by omega) (j := 1) rfl dX12_judges_256 ?_
                    obtain ⟨s59, e_s59⟩ : ∃ z, z = zU s11 (gP G a 30) 1 v1 := ⟨_, rfl⟩
                    rw [← e_s59]
                    have hS_s59 : zSK G s59 := by rw [e_s59]; exact zSK_A hS_s11 (zr (k := 30) (t2 := 87) hG ha rfl) rfl rfl rfl (by omega)
                    refine j_aload_n hx 0 dX12_judges_257 rfl ?_
                    refine g13_30 hx hG ha kf_RX12_65 dX12_judges_258 ?_
                    refine j_iconst hx dX12_judges_261 ?_
                    refine j_aload_n hx 0 dX12_judges_262 rfl ?_
                    refine g13_45 hx hG ha kf_RX12_99 dX12_judges_263 ?_
                    refine j_iload_n hx 1 dX12_judges_266 rfl ?_
                    have f92 := zaI (j := (v1).toNat) hS0 (zr (k := 45) (t2 := 98) hG ha rfl) rfl (zlen hG (zr (k := 45) (t2 := 98) hG ha rfl) (n := 3) rfl rfl) (show 0 ≤ v1 by omega) (by omega) rfl
                    refine j_iald hx hG (zr (k := 45) (t2 := 98) hG ha rfl) (by decide) rfl (zlen hG (zr (k := 45) (t2 := 98) hG ha rfl) (n := 3) rfl rfl) (by omega) (by omega) (j := (v1).toNat) rfl (v := (s0 (gP G a 45) (v1).toNat)) (by rw [e_s59, zU_at (Or.inl (zne (zr (k := 30) (t2 := 87) hG ha rfl) (zr (k := 45) (t2 := 98) hG ha rfl) (by decide))), e_s11, zU_at (Or.inl (zne (zr (k := 30) (t2 := 87) hG ha rfl) (zr (k := 45) (t2 := 98) hG ha rfl) (by decide))), (zFr_g hF_s7 (zr (k := 45) (t2 := 98) hG ha rfl) (by decide))]) dX12_judges_267 ?_
                    refine j_iast hx hG (zr (k := 30) (t2 := 87) hG ha rfl) (by decide) rfl (zlen hG (zr (k := 30) (t2 := 87) hG ha rfl) (n := 5) rfl rfl) (by omega) (by omega) (j := 2) rfl dX12_judges_268 ?_
                    obtain ⟨s60, e_s60⟩ : ∃ z, z = zU s59 (gP G a 30) 2 ((s0 (gP G a 45) (v1).toNat)) := ⟨_, rfl⟩
                    rw [← e_s60]
                    have hS_s60 : zSK G s60 := by rw [e_s60]; exact zSK_A hS_s59 (zr (k := 30) (t2 := 87) hG ha rfl) rfl rfl rfl (by omega)
                    refine j_iload hx 2 dX12_judges_269 rfl ?_
                    refine j_iconst hx dX12_judges_271 ?_
                    refine j_icmp_ne hx 287 dX12_judges_272 rfl ⟨by decide, by decide⟩ ⟨by decide, by decide⟩ (fun h93 => ?_) (fun h93 => absurd h93 (by omega))
                    refine j_aload_n hx 0 dX12_judges_287 rfl ?_
                    have f94 := zf hS0 ha (k := 44) rfl
                    refine g13_44 hx hG ha kf_RX12_377 (v := (s0 a 44)) (by rw [e_s60, zU_at (Or.inl (zne (zr (k := 30) (t2 := 87) hG ha rfl) ha (by decide))), e_s59, zU_at (Or.inl (zne (zr (k := 30) (t2 := 87) hG ha rfl) ha (by decide))), e_s11, zU_at (Or.inl (zne (zr (k := 30) (t2 := 87) hG ha rfl) ha (by decide))), (zFr_g hF_s7 ha (by decide))]) dX12_judges_288 ?_
                    have c312_61 : ∀ (v95 : Int), (0 ≤ v95 ∧ v95 ≤ 1) → JJ X E 6 G s60 0 0 [(0, .ref a), (1, .int (zI v1)), (4, .int (zI 2))] 312 [.int (zI v95)] := by
                      intro v95 fA62
                      refine j_istore hx [(5, .int (zI v95)), (0, .ref a), (1, .int (zI v1)), (4, .int (zI 2))] dX12_judges_312 (by decide) rfl ?_
                      refine j_aload_n hx 1 dX12_judges_314 rfl ?_
                      refine j_iload_n hx 2 dX12_judges_315 rfl ?_
                      refine j_aload_n hx 1 dX12_judges_316 rfl ?_
                      refine g13_45 hx hG ha kf_RX12_99 dX12_judges_317 ?_
                      refine j_iload_n hx 2 dX12_judges_320 rfl ?_
                      refine j_iald hx hG (zr (k := 45) (t2 := 98) hG ha rfl) (by decide) rfl (zlen hG (zr (k := 45) (t2 := 98) hG ha rfl) (n := 3) rfl rfl) (by omega) (by omega) (j := (v1).toNat) rfl (v := (s0 (gP G a 45) (v1).toNat)) (by rw [e_s60, zU_at (Or.inl (zne (zr (k := 30) (t2 := 87) hG ha rfl) (zr (k := 45) (t2 := 98) hG ha rfl) (by decide))), e_s59, zU_at (Or.inl (zne (zr (k := 30) (t2 := 87) hG ha rfl) (zr (k := 45) (t2 := 98) hG ha rfl) (by decide))), e_s11, zU_at (Or.inl (zne (zr (k := 30) (t2 := 87) hG ha rfl) (zr (k := 45) (t2 := 98) hG ha rfl) (by decide))), (zFr_g hF_s7 (zr (k := 45) (t2 := 98) hG ha rfl) (by decide))]) dX12_judges_321 ?_
                      have c339_63 : ∀ (v96 : Int), (0 ≤ v96 ∧ v96 ≤ 2) → JJ X E 6 G s60 0 0 [(0, .ref a), (1, .int (zI v1)), (4, .int (zI 2))] 339 [.int (zI v96), .int (zI v1), .ref a] := by
                        intro v96 fA64
                        have g97 : zc (s60 (gP G a 27)) = zc (s0 (gP G a 27)) := by rw [e_s60, zU_ne (zne (zr (k := 30) (t2 := 87) hG ha rfl) (zr (k := 27) (t2 := 84) hG ha rfl) (by decide)), e_s59, zU_ne (zne (zr (k := 30) (t2 := 87) hG ha rfl) (zr (k := 27) (t2 := 84) hG ha rfl) (by decide)), e_s11, zU_ne (zne (zr (k := 30) (t2 := 87) hG ha rfl) (zr (k := 27) (t2 := 84) hG ha rfl) (by decide)), hF_s7 (gP G a 27) (by rw [(zr (k := 27) (t2 := 84) hG ha rfl)]; decide)]
                        have g98 : s60 (gP G a 27) 488 = s0 (gP G a 27) 488 := (by rw [e_s60, zU_at (Or.inl (zne (zr (k := 30) (t2 := 87) hG ha rfl) (zr (k := 27) (t2 := 84) hG ha rfl) (by decide))), e_s59, zU_at (Or.inl (zne (zr (k := 30) (t2 := 87) hG ha rfl) (zr (k := 27) (t2 := 84) hG ha rfl) (by decide))), e_s11, zU_at (Or.inl (zne (zr (k := 30) (t2 := 87) hG ha rfl) (zr (k := 27) (t2 := 84) hG ha rfl) (by decide))), (zFr_g hF_s7 (zr (k := 27) (t2 := 84) hG ha rfl) (by decide))])
                        refine j_callV hx hG (c_X12_counts hst a v1 v96) lk_RX12_388 ha (by decide) rfl rfl rfl rfl [.int (zI v1), .int (zI v96)] ⟨rfl, hG, hS_s60, ha, (by omega), (by omega)⟩ rfl rfl ⟨by decide, by decide⟩ ⟨by decide, by decide⟩ (k2 := 0) (n2 := 0) rfl rfl (Nat.le_of_ble_eq_true rfl) dX12_judges_339 (kVM (fun s65 hS_s65 hF_s65 q100 => ?_))
                        refine j_aload_n hx 0 dX12_judges_342 rfl ?_
                        refine g13_30 hx hG ha kf_RX12_65 dX12_judges_343 ?_
                        refine j_iconst hx dX12_judges_346 ?_
                        refine j_iload_n hx 1 dX12_judges_347 rfl ?_
                        refine j_iast hx hG (zr (k := 30) (t2 := 87) hG ha rfl) (by decide) rfl (zlen hG (zr (k := 30) (t2 := 87) hG ha rfl) (n := 5) rfl rfl) (by omega) (by omega) (j := 0) rfl dX12_judges_348 ?_
                        obtain ⟨s66, e_s66⟩ : ∃ z, z = zU s65 (gP G a 30) 0 v1 := ⟨_, rfl⟩
                        rw [← e_s66]
                        have hS_s66 : zSK G s66 := by rw [e_s66]; exact zSK_A hS_s65 (zr (k := 30) (t2 := 87) hG ha rfl) rfl rfl rfl (by omega)
                        refine j_aload_n hx 0 dX12_judges_349 rfl ?_
                        refine g13_30 hx hG ha kf_RX12_65 dX12_judges_350 ?_
                        refine j_iconst hx dX12_judges_353 ?_
                        refine j_aload_n hx 0 dX12_judges_354 rfl ?_
                        refine j_iload_n hx 1 dX12_judges_355 rfl ?_
                        refine j_iload hx 2 dX12_judges_356 rfl ?_
                        have g101 : zc (s66 (gP G a 27)) = zc (s65 (gP G a 27)) := by rw [e_s66, zU_ne (zne (zr (k := 30) (t2 := 87) hG ha rfl) (zr (k := 27) (t2 := 84) hG ha rfl) (by decide))]
                        have g102 : s66 (gP G a 27) 488 = s65 (gP G a 27) 488 := (by rw [e_s66, zU_at (Or.inl (zne (zr (k := 30) (t2 := 87) hG ha rfl) (zr (k := 27) (t2 := 84) hG ha rfl) (by decide)))])
                        refine j_callV hx hG (c_X12_wins hst a v1 2) lk_RX12_394 ha (by decide) rfl rfl rfl rfl [.int (zI v1), .int (zI 2)] ⟨rfl, hG, hS_s66, ha, (by omega), (by omega), (by omega), (by omega)⟩ rfl rfl ⟨by decide, by decide⟩ ⟨by decide, by decide⟩ (k2 := 0) (n2 := 0) rfl rfl (Nat.le_of_ble_eq_true rfl) dX12_judges_358 (kIM (fun v103 s67 hS_s67 hF_s67 q104 => ?_))
                        refine j_iast hx hG (zr (k := 30) (t2 := 87) hG ha rfl) (by decide) rfl (zlen hG (zr (k := 30) (t2 := 87) hG ha rfl) (n := 5) rfl rfl) (by omega) (by omega) (j := 4) rfl dX12_judges_361 ?_
                        obtain ⟨s68, e_s68⟩ : ∃ z, z = zU s67 (gP G a 30) 4 v103 := ⟨_, rfl⟩
                        rw [← e_s68]
                        have hS_s68 : zSK G s68 := by rw [e_s68]; exact zSK_A hS_s67 (zr (k := 30) (t2 := 87) hG ha rfl) rfl rfl rfl (by omega)
                        refine j_aload_n hx 0 dX12_judges_362 rfl ?_
                        refine g13_27 hx hG ha kf_RX12_56 dX12_judges_363 ?_
                        refine j_sipush hx dX12_judges_366 rfl ?_
                        refine j_iload_n hx 1 dX12_judges_369 rfl ?_
                        refine j_iadd hx (r := v1 + 512) dX12_judges_370 (by omega) ?_
                        refine j_dup2 hx dX12_judges_371 rfl rfl ?_
                        have f105 := zaQ (j := (v1 + 512).toNat) hS_s67 (zr (k := 27) (t2 := 84) hG ha rfl) (congrArg some (axS_8 (v1 + 512).toNat (by omega))) (zlen hG (zr (k := 27) (t2 := 84) hG ha rfl) (n := 515) rfl rfl) (show 0 ≤ v1 + 512 by omega) (by omega) rfl
                        refine j_iald hx hG (zr (k := 27) (t2 := 84) hG ha rfl) (by decide) rfl (zlen hG (zr (k := 27) (t2 := 84) hG ha rfl) (n := 515) rfl rfl) (by omega) (by omega) (j := (v1 + 512).toNat) rfl (v := (s67 (gP G a 27) (v1 + 512).toNat)) (by rw [e_s68, zU_at (Or.inl (zne (zr (k := 30) (t2 := 87) hG ha rfl) (zr (k := 27) (t2 := 84) hG ha rfl) (by decide)))]) dX12_judges_372 ?_
                        refine j_aload_n hx 0 dX12_judges_373 rfl ?_
                        refine g13_30 hx hG ha kf_RX12_65 dX12_judges_374 ?_
                        refine j_iconst hx dX12_judges_377 ?_
                        refine j_iald hx hG (zr (k := 30) (t2 := 87) hG ha rfl) (by decide) rfl (zlen hG (zr (k := 30) (t2 := 87) hG ha rfl) (n := 5) rfl rfl) (by omega) (by omega) (j := 4) rfl (v := v103) (by rw [e_s68, zU_eq]) dX12_judges_378 ?_
                        refine j_iadd hx (r := (s67 (gP G a 27) (v1 + 512).toNat) + v103) dX12_judges_379 (by omega) ?_
                        refine j_norm (fun v106 f107 f108 f109 => ?_)
                        refine j_iast hx hG (zr (k := 27) (t2 := 84) hG ha rfl) (by decide) rfl (zlen hG (zr (k := 27) (t2 := 84) hG ha rfl) (n := 515) rfl rfl) (by omega) (by omega) (j := (v1 + 512).toNat) rfl dX12_judges_380 ?_
                        obtain ⟨s69, e_s69⟩ : ∃ z, z = zU s68 (gP G a 27) (v1 + 512).toNat v106 := ⟨_, rfl⟩
                        rw [← e_s69]
                        have hS_s69 : zSK G s69 := by rw [e_s69]; exact zSK_a hS_s68 (zr (k := 27) (t2 := 84) hG ha rfl) rfl rfl (congrArg some (axS_8 (v1 + 512).toNat (by omega))) (by omega)
                        have g111 : zc (s68 (gP G a 27)) = zc (s67 (gP G a 27)) := by rw [e_s68, zU_ne (zne (zr (k := 30) (t2 := 87) hG ha rfl) (zr (k := 27) (t2 := 84) hG ha rfl) (by decide))]
                        have z110 : zc (s69 (gP G a 27)) = zc (s68 (gP G a 27)) := by rw [e_s69]; exact zc_o (by omega)
                        have g112 : s69 (gP G a 27) 488 = s67 (gP G a 27) 488 := (by rw [e_s69, zU_at (Or.inr (by omega)), e_s68, zU_at (Or.inl (zne (zr (k := 30) (t2 := 87) hG ha rfl) (zr (k := 27) (t2 := 84) hG ha rfl) (by decide)))])
                        exact j_vret hx hq rfl (by decide) (by decide) dX12_judges_381 ⟨rfl, rfl, hS_s69, (zFr_u (zFr_u (zFr_t (zFr_u (zFr_t (zFr_u (zFr_u (zFr_u (zFr_t zFr_rf hF_s7 (by decide)) e_s11 (zr (k := 30) (t2 := 87) hG ha rfl) (by decide)) e_s59 (zr (k := 30) (t2 := 87) hG ha rfl) (by decide)) e_s60 (zr (k := 30) (t2 := 87) hG ha rfl) (by decide)) hF_s65 (by decide)) e_s66 (zr (k := 30) (t2 := 87) hG ha rfl) (by decide)) hF_s67 (by decide)) e_s68 (zr (k := 30) (t2 := 87) hG ha rfl) (by decide)) e_s69 (zr (k := 27) (t2 := 84) hG ha rfl) (by decide)), ⟨by omega, by omega⟩⟩
                      refine j_if_lt hx 329 dX12_judges_322 rfl (by omega) (fun h113 => ?_) (fun h113 => ?_)
                      · skip
                        refine j_iload hx 0 dX12_judges_329 rfl ?_
                        refine j_if_eq hx 338 dX12_judges_331 rfl (by omega) (fun h114 => ?_) (fun h114 => ?_)
                        · skip
                          refine j_iconst hx dX12_judges_338 ?_
                          exact j_sub [1, 2, 3] [(0, .ref a), (1, .int (zI v1)), (4, .int (zI 2))] rfl (c339_63 1 (by omega))
                        · skip
                          refine j_iconst hx dX12_judges_334 ?_
                          refine j_goto hx 339 dX12_judges_335 rfl ?_
                          exact j_sub [1, 2, 3] [(0, .ref a), (1, .int (zI v1)), (4, .int (zI 2))] rfl (c339_63 2 (by omega))
                      · skip
                        refine j_iconst hx dX12_judges_325 ?_
                        refine j_goto hx 339 dX12_judges_326 rfl ?_
                        exact j_sub [1, 2, 3] [(0, .ref a), (1, .int (zI v1)), (4, .int (zI 2))] rfl (c339_63 0 (by omega))
                    have c311_70 : JJ X E 6 G s60 0 0 [(0, .ref a), (1, .int (zI v1)), (4, .int (zI 2))] 311 [] := by
                      refine j_iconst hx dX12_judges_311 ?_
                      exact j_sub [0, 1, 2] [(0, .ref a), (1, .int (zI v1)), (4, .int (zI 2))] rfl (c312_61 0 (by omega))
                    refine j_if_eq hx 311 dX12_judges_291 rfl (by omega) (fun h115 => ?_) (fun h115 => ?_)
                    · skip
                      exact j_sub [0, 1, 2] [(0, .ref a), (1, .int (zI v1)), (4, .int (zI 2))] rfl (c311_70  )
                    · skip
                      refine j_aload_n hx 0 dX12_judges_294 rfl ?_
                      refine g13_17 hx hG ha kf_RX12_44 dX12_judges_295 ?_
                      refine j_iconst hx dX12_judges_298 ?_
                      refine j_iload_n hx 1 dX12_judges_299 rfl ?_
                      refine j_imul hx (r := 4 * v1) dX12_judges_300 rfl ?_
                      refine j_iconst hx dX12_judges_301 ?_
                      refine j_iadd hx (r := 4 * v1 + 1) dX12_judges_302 (by omega) ?_
                      have f116 := zaI (j := (4 * v1 + 1).toNat) hS0 (zr (k := 17) (t2 := 80) hG ha rfl) rfl (zlen hG (zr (k := 17) (t2 := 80) hG ha rfl) (n := 12) rfl rfl) (show 0 ≤ 4 * v1 + 1 by omega) (by omega) rfl
                      refine j_iald hx hG (zr (k := 17) (t2 := 80) hG ha rfl) (by decide) rfl (zlen hG (zr (k := 17) (t2 := 80) hG ha rfl) (n := 12) rfl rfl) (by omega) (by omega) (j := (4 * v1 + 1).toNat) rfl (v := (s0 (gP G a 17) (4 * v1 + 1).toNat)) (by rw [e_s60, zU_at (Or.inl (zne (zr (k := 30) (t2 := 87) hG ha rfl) (zr (k := 17) (t2 := 80) hG ha rfl) (by decide))), e_s59, zU_at (Or.inl (zne (zr (k := 30) (t2 := 87) hG ha rfl) (zr (k := 17) (t2 := 80) hG ha rfl) (by decide))), e_s11, zU_at (Or.inl (zne (zr (k := 30) (t2 := 87) hG ha rfl) (zr (k := 17) (t2 := 80) hG ha rfl) (by decide))), (zFr_g hF_s7 (zr (k := 17) (t2 := 80) hG ha rfl) (by decide))]) dX12_judges_303 ?_
                      refine j_if_le hx 311 dX12_judges_304 rfl (by omega) (fun h117 => ?_) (fun h117 => ?_)
                      · skip
                        exact j_sub [0, 1, 2] [(0, .ref a), (1, .int (zI v1)), (4, .int (zI 2))] rfl (c311_70  )
                      · skip
                        refine j_iconst hx dX12_judges_307 ?_
                        refine j_goto hx 312 dX12_judges_308 rfl ?_
                        exact j_sub [0, 1, 2] [(0, .ref a), (1, .int (zI v1)), (4, .int (zI 2))] rfl (c312_61 1 (by omega))
                  refine j_icmp_le hx 250 dX12_judges_146 rfl (by omega) ⟨by decide, by decide⟩ (fun h118 => ?_) (fun h118 => ?_)
                  · skip
                    exact j_sub [1, 2, 0] [(0, .ref a), (1, .int (zI v1)), (4, .int (zI 2))] rfl (c250_58  )
                  · skip
                    refine j_aload_n hx 1 dX12_judges_149 rfl ?_
                    refine g13_27 hx hG ha kf_RX12_56 dX12_judges_150 ?_
                    refine j_sipush hx dX12_judges_153 rfl ?_
                    have f119 := zaQ (j := 492) hS0 (zr (k := 27) (t2 := 84) hG ha rfl) (congrArg some (axS_7 492 (by omega))) (zlen hG (zr (k := 27) (t2 := 84) hG ha rfl) (n := 515) rfl rfl) (show 0 ≤ 492 by omega) (by omega) rfl
                    refine j_iald hx hG (zr (k := 27) (t2 := 84) hG ha rfl) (by decide) rfl (zlen hG (zr (k := 27) (t2 := 84) hG ha rfl) (n := 515) rfl rfl) (by omega) (by omega) (j := 492) rfl (v := (s0 (gP G a 27) 492)) (by rw [e_s11, zU_at (Or.inl (zne (zr (k := 30) (t2 := 87) hG ha rfl) (zr (k := 27) (t2 := 84) hG ha rfl) (by decide))), (zFr_g hF_s7 (zr (k := 27) (t2 := 84) hG ha rfl) (by decide))]) dX12_judges_156 ?_
                    refine j_if_le hx 250 dX12_judges_157 rfl (by omega) (fun h120 => ?_) (fun h120 => ?_)
                    · skip
                      exact j_sub [1, 2, 0] [(0, .ref a), (1, .int (zI v1)), (4, .int (zI 2))] rfl (c250_58  )
                    · skip
                      refine j_iconst hx dX12_judges_160 ?_
                      refine j_istore hx [(5, .int (zI 0)), (4, .int (zI 2)), (0, .ref a), (1, .int (zI v1)), (2, .int (zI v2)), (3, .int (zI v3))] dX12_judges_161 (by decide) rfl ?_
                      have g122 : s11 (gP G a 27) 488 = s0 (gP G a 27) 488 := (by rw [e_s11, zU_at (Or.inl (zne (zr (k := 30) (t2 := 87) hG ha rfl) (zr (k := 27) (t2 := 84) hG ha rfl) (by decide))), (zFr_g hF_s7 (zr (k := 27) (t2 := 84) hG ha rfl) (by decide))])
                      have g123 : zc (s11 (gP G a 27)) = zc (s0 (gP G a 27)) := by rw [e_s11, zU_ne (zne (zr (k := 30) (t2 := 87) hG ha rfl) (zr (k := 27) (t2 := 84) hG ha rfl) (by decide)), hF_s7 (gP G a 27) (by rw [(zr (k := 27) (t2 := 84) hG ha rfl)]; decide)]
                      have c163_71 : ∀ (m_c163_71 : Nat) (v121 : Int) (s72 : zS), 2147483648 - v121 < m_c163_71 → (0 ≤ v121 ∧ v121 ≤ 3) → (zSK G s72) → (zFr [84] G s11 s72) → (zc (s72 (gP G a 27)) = zc (s11 (gP G a 27))) → (s72 (gP G a 27) 488 = s11 (gP G a 27) 488) → JJ X E 6 G s72 0 0 [(0, .ref a), (1, .int (zI v1)), (4, .int (zI 2)), (5, .int (zI v121))] 163 [] := by
                        intro m_c163_71
                        induction m_c163_71 with
                        | zero => intro v121 s72 hm_c163_71 fA73 hS_s72 hF_s72 fA76 fA77; exfalso; omega
                        | succ m_c163_71 ih_c163_71 => 
                          intro v121 s72 hm_c163_71 fA73 hS_s72 hF_s72 fA76 fA77
                          refine j_iload hx 3 dX12_judges_163 rfl ?_
                          refine j_aload_n hx 0 dX12_judges_165 rfl ?_
                          refine g13_24 hx hG ha kf_RX12_189 (v := (s0 a 24)) (by rw [(zFr_g hF_s72 ha (by decide)), e_s11, zU_at (Or.inl (zne (zr (k := 30) (t2 := 87) hG ha rfl) ha (by decide))), (zFr_g hF_s7 ha (by decide))]) dX12_judges_166 ?_
                          refine j_icmp_ge hx 201 dX12_judges_169 rfl (by omega) (by omega) (fun h124 => ?_) (fun h124 => ?_)
                          · skip
                            refine j_aload_n hx 0 dX12_judges_201 rfl ?_
                            refine g13_27 hx hG ha kf_RX12_56 dX12_judges_202 ?_
                            refine j_sipush hx dX12_judges_205 rfl ?_
                            have f125 := zaQ (j := 492) hS_s72 (zr (k := 27) (t2 := 84) hG ha rfl) (congrArg some (axS_7 492 (by omega))) (zlen hG (zr (k := 27) (t2 := 84) hG ha rfl) (n := 515) rfl rfl) (show 0 ≤ 492 by omega) (by omega) rfl
                            refine j_iald hx hG (zr (k := 27) (t2 := 84) hG ha rfl) (by decide) rfl (zlen hG (zr (k := 27) (t2 := 84) hG ha rfl) (n := 515) rfl rfl) (by omega) (by omega) (j := 492) rfl rfl dX12_judges_208 ?_
                            refine j_iconst hx dX12_judges_209 ?_
                            refine j_icmp_ne hx 249 dX12_judges_210 rfl (by omega) ⟨by decide, by decide⟩ (fun h126 => ?_) (fun h126 => ?_)
                            · skip
                              exact j_vret hx hq rfl (by decide) (by decide) dX12_judges_249 ⟨rfl, rfl, hS_s72, (zFr_t (zFr_u (zFr_t zFr_rf hF_s7 (by decide)) e_s11 (zr (k := 30) (t2 := 87) hG ha rfl) (by decide)) hF_s72 (by decide)), ⟨by omega, by omega⟩⟩
                            · skip
                              refine j_iload hx 2 dX12_judges_213 rfl ?_
                              refine j_iconst hx dX12_judges_215 ?_
                              refine j_icmp_eq hx 249 dX12_judges_216 rfl ⟨by decide, by decide⟩ ⟨by decide, by decide⟩ (fun h127 => absurd h127 (by omega)) (fun h127 => ?_)
                              refine j_aload_n hx 0 dX12_judges_219 rfl ?_
                              refine j_iload hx 2 dX12_judges_220 rfl ?_
                              refine j_bipush hx dX12_judges_222 rfl ?_
                              refine j_idiv hx dX12_judges_224 ⟨by decide, by decide⟩ ⟨by decide, by decide⟩ (by decide) (fun v128 f129 f130 f131 => ?_)
                              refine j_sipush hx dX12_judges_225 rfl ?_
                              refine j_sipush hx dX12_judges_228 rfl ?_
                              refine j_callV hx hG (c_X12_comes hst a v128 360 486) lk_RX12_365 ha (by decide) rfl rfl rfl rfl [.int (zI v128), .int (zI 360), .int (zI 486)] ⟨rfl, hG, hS_s72, ha, (by omega), (by omega), (by omega), (by omega), (by omega)⟩ rfl rfl ⟨by decide, by decide⟩ ⟨by decide, by decide⟩ (k2 := 0) (n2 := 0) rfl rfl (Nat.le_of_ble_eq_true rfl) dX12_judges_231 (kVM (fun s78 hS_s78 hF_s78 q135 => ?_))
                              refine j_aload_n hx 0 dX12_judges_234 rfl ?_
                              refine j_iload hx 2 dX12_judges_235 rfl ?_
                              refine j_bipush hx dX12_judges_237 rfl ?_
                              refine j_irem hx dX12_judges_239 ⟨by decide, by decide⟩ ⟨by decide, by decide⟩ (by decide) (fun v136 f137 f138 f139 f140 => ?_)
                              refine j_sipush hx dX12_judges_240 rfl ?_
                              refine j_sipush hx dX12_judges_243 rfl ?_
                              refine j_callV hx hG (c_X12_comes hst a v136 360 486) lk_RX12_365 ha (by decide) rfl rfl rfl rfl [.int (zI v136), .int (zI 360), .int (zI 486)] ⟨rfl, hG, hS_s78, ha, (by omega), (by omega), (by omega), (by omega), (by omega)⟩ rfl rfl ⟨by decide, by decide⟩ ⟨by decide, by decide⟩ (k2 := 0) (n2 := 0) rfl rfl (Nat.le_of_ble_eq_true rfl) dX12_judges_246 (kVM (fun s79 hS_s79 hF_s79 q143 => ?_))
                              exact j_vret hx hq rfl (by decide) (by decide) dX12_judges_249 ⟨rfl, rfl, hS_s79, (zFr_t (zFr_t (zFr_t (zFr_u (zFr_t zFr_rf hF_s7 (by decide)) e_s11 (zr (k := 30) (t2 := 87) hG ha rfl) (by decide)) hF_s72 (by decide)) hF_s78 (by decide)) hF_s79 (by decide)), ⟨by omega, by omega⟩⟩
                          · skip
                            refine j_aload_n hx 0 dX12_judges_172 rfl ?_
                            refine g13_45 hx hG ha kf_RX12_99 dX12_judges_173 ?_
                            refine j_iload hx 3 dX12_judges_176 rfl ?_
                            have f144 := zaI (j := (v121).toNat) hS0 (zr (k := 45) (t2 := 98) hG ha rfl) rfl (zlen hG (zr (k := 45) (t2 := 98) hG ha rfl) (n := 3) rfl rfl) (show 0 ≤ v121 by omega) (by omega) rfl
                            refine j_iald hx hG (zr (k := 45) (t2 := 98) hG ha rfl) (by decide) rfl (zlen hG (zr (k := 45) (t2 := 98) hG ha rfl) (n := 3) rfl rfl) (by omega) (by omega) (j := (v121).toNat) rfl (v := (s0 (gP G a 45) (v121).toNat)) (by rw [(zFr_g hF_s72 (zr (k := 45) (t2 := 98) hG ha rfl) (by decide)), e_s11, zU_at (Or.inl (zne (zr (k := 30) (t2 := 87) hG ha rfl) (zr (k := 45) (t2 := 98) hG ha rfl) (by decide))), (zFr_g hF_s7 (zr (k := 45) (t2 := 98) hG ha rfl) (by decide))]) dX12_judges_178 ?_
                            refine j_aload_n hx 0 dX12_judges_179 rfl ?_
                            refine g13_45 hx hG ha kf_RX12_99 dX12_judges_180 ?_
                            refine j_iload_n hx 1 dX12_judges_183 rfl ?_
                            have f145 := zaI (j := (v1).toNat) hS0 (zr (k := 45) (t2 := 98) hG ha rfl) rfl (zlen hG (zr (k := 45) (t2 := 98) hG ha rfl) (n := 3) rfl rfl) (show 0 ≤ v1 by omega) (by omega) rfl
                            refine j_iald hx hG (zr (k := 45) (t2 := 98) hG ha rfl) (by decide) rfl (zlen hG (zr (k := 45) (t2 := 98) hG ha rfl) (n := 3) rfl rfl) (by omega) (by omega) (j := (v1).toNat) rfl (v := (s0 (gP G a 45) (v1).toNat)) (by rw [(zFr_g hF_s72 (zr (k := 45) (t2 := 98) hG ha rfl) (by decide)), e_s11, zU_at (Or.inl (zne (zr (k := 30) (t2 := 87) hG ha rfl) (zr (k := 45) (t2 := 98) hG ha rfl) (by decide))), (zFr_g hF_s7 (zr (k := 45) (t2 := 98) hG ha rfl) (by decide))]) dX12_judges_184 ?_
                            have c195_80 : ∀ (s81 : zS), (zSK G s81) → (zFr [84] G s72 s81) → (zc (s81 (gP G a 27)) = zc (s72 (gP G a 27))) → JJ X E 6 G s81 0 0 [(0, .ref a), (1, .int (zI v1)), (4, .int (zI 2)), (5, .int (zI v121))] 195 [] := by
                              intro s81 hS_s81 hF_s81 fA84
                              refine j_iinc hx 3 [(5, .int (zI (v121 + 1))), (0, .ref a), (1, .int (zI v1)), (4, .int (zI 2))] dX12_judges_195 rfl (by omega) (by decide) rfl ?_
                              refine j_goto hx 163 dX12_judges_198 rfl ?_
                              exact j_sub [1, 2, 3, 0] [(0, .ref a), (1, .int (zI v1)), (4, .int (zI 2)), (5, .int (zI (v121 + 1)))] rfl (ih_c163_71 (v121 + 1) s81 (by omega) (by omega) hS_s81 (zFr_t (zFr_t zFr_rf hF_s72 (by decide)) hF_s81 (by decide)) (by omega) (by omega))
                            refine j_icmp_ne hx 195 dX12_judges_185 rfl (by omega) (by omega) (fun h146 => ?_) (fun h146 => ?_)
                            · skip
                              exact j_sub [0, 1, 2, 3] [(0, .ref a), (1, .int (zI v1)), (4, .int (zI 2)), (5, .int (zI v121))] rfl (c195_80 s72 hS_s72 zFr_rf (by omega))
                            · skip
                              refine j_aload_n hx 0 dX12_judges_188 rfl ?_
                              refine j_iload hx 3 dX12_judges_189 rfl ?_
                              refine j_iconst hx dX12_judges_191 ?_
                              refine j_callV hx hG (c_X12_counts hst a v121 4) lk_RX12_388 ha (by decide) rfl rfl rfl rfl [.int (zI v121), .int (zI 4)] ⟨rfl, hG, hS_s72, ha, (by omega), (by omega)⟩ rfl rfl ⟨by decide, by decide⟩ ⟨by decide, by decide⟩ (k2 := 0) (n2 := 0) rfl rfl (Nat.le_of_ble_eq_true rfl) dX12_judges_192 (kVM (fun s85 hS_s85 hF_s85 q148 => ?_))
                              exact j_sub [0, 1, 2, 3] [(0, .ref a), (1, .int (zI v1)), (4, .int (zI 2)), (5, .int (zI v121))] rfl (c195_80 s85 hS_s85 (zFr_t zFr_rf hF_s85 (by decide)) (by omega))
                      exact j_sub [2, 3, 1, 0] [(0, .ref a), (1, .int (zI v1)), (4, .int (zI 2)), (5, .int (zI 0))] rfl (c163_71 (2147483648 * 4) 0 s11 (by omega) (by omega) hS_s11 zFr_rf (by omega) (by omega))
                · skip
                  refine j_iload_n hx 4 dX12_judges_144 rfl ?_
                  refine j_iconst hx dX12_judges_145 ?_
                  have c250_86 : JJ X E 6 G s11 0 0 [(0, .ref a), (1, .int (zI v1)), (4, .int (zI 12))] 250 [] := by
                    refine j_aload_n hx 0 dX12_judges_250 rfl ?_
                    refine g13_30 hx hG ha kf_RX12_65 dX12_judges_251 ?_
                    refine j_iconst hx dX12_judges_254 ?_
                    refine j_iload_n hx 1 dX12_judges_255 rfl ?_
                    refine j_iast hx hG (zr (k := 30) (t2 := 87) hG ha rfl) (by decide) rfl (zlen hG (zr (k := 30) (t2 := 87) hG ha rfl) (n := 5) rfl rfl) (by omega) (by omega) (j := 1) rfl dX12_judges_256 ?_
                    obtain ⟨s87, e_s87⟩ : ∃ z, z = zU s11 (gP G a 30) 1 v1 := ⟨_, rfl⟩
                    rw [← e_s87]
                    have hS_s87 : zSK G s87 := by rw [e_s87]; exact zSK_A hS_s11 (zr (k := 30) (t2 := 87) hG ha rfl) rfl rfl rfl (by omega)
                    refine j_aload_n hx 0 dX12_judges_257 rfl ?_
                    refine g13_30 hx hG ha kf_RX12_65 dX12_judges_258 ?_
                    refine j_iconst hx dX12_judges_261 ?_
                    refine j_aload_n hx 0 dX12_judges_262 rfl ?_
                    refine g13_45 hx hG ha kf_RX12_99 dX12_judges_263 ?_
                    refine j_iload_n hx 1 dX12_judges_266 rfl ?_
                    have f149 := zaI (j := (v1).toNat) hS0 (zr (k := 45) (t2 := 98) hG ha rfl) rfl (zlen hG (zr (k := 45) (t2 := 98) hG ha rfl) (n := 3) rfl rfl) (show 0 ≤ v1 by omega) (by omega) rfl
                    refine j_iald hx hG (zr (k := 45) (t2 := 98) hG ha rfl) (by decide) rfl (zlen hG (zr (k := 45) (t2 := 98) hG ha rfl) (n := 3) rfl rfl) (by omega) (by omega) (j := (v1).toNat) rfl (v := (s0 (gP G a 45) (v1).toNat)) (by rw [e_s87, zU_at (Or.inl (zne (zr (k := 30) (t2 := 87) hG ha rfl) (zr (k := 45) (t2 := 98) hG ha rfl) (by decide))), e_s11, zU_at (Or.inl (zne (zr (k := 30) (t2 := 87) hG ha rfl) (zr (k := 45) (t2 := 98) hG ha rfl) (by decide))), (zFr_g hF_s7 (zr (k := 45) (t2 := 98) hG ha rfl) (by decide))]) dX12_judges_267 ?_
                    refine j_iast hx hG (zr (k := 30) (t2 := 87) hG ha rfl) (by decide) rfl (zlen hG (zr (k := 30) (t2 := 87) hG ha rfl) (n := 5) rfl rfl) (by omega) (by omega) (j := 2) rfl dX12_judges_268 ?_
                    obtain ⟨s88, e_s88⟩ : ∃ z, z = zU s87 (gP G a 30) 2 ((s0 (gP G a 45) (v1).toNat)) := ⟨_, rfl⟩
                    rw [← e_s88]
                    have hS_s88 : zSK G s88 := by rw [e_s88]; exact zSK_A hS_s87 (zr (k := 30) (t2 := 87) hG ha rfl) rfl rfl rfl (by omega)
                    refine j_iload hx 2 dX12_judges_269 rfl ?_
                    refine j_iconst hx dX12_judges_271 ?_
                    refine j_icmp_ne hx 287 dX12_judges_272 rfl ⟨by decide, by decide⟩ ⟨by decide, by decide⟩ (fun h150 => ?_) (fun h150 => absurd h150 (by omega))
                    refine j_aload_n hx 0 dX12_judges_287 rfl ?_
                    have f151 := zf hS0 ha (k := 44) rfl
                    refine g13_44 hx hG ha kf_RX12_377 (v := (s0 a 44)) (by rw [e_s88, zU_at (Or.inl (zne (zr (k := 30) (t2 := 87) hG ha rfl) ha (by decide))), e_s87, zU_at (Or.inl (zne (zr (k := 30) (t2 := 87) hG ha rfl) ha (by decide))), e_s11, zU_at (Or.inl (zne (zr (k := 30) (t2 := 87) hG ha rfl) ha (by decide))), (zFr_g hF_s7 ha (by decide))]) dX12_judges_288 ?_
                    have c312_89 : ∀ (v152 : Int), (0 ≤ v152 ∧ v152 ≤ 1) → JJ X E 6 G s88 0 0 [(0, .ref a), (1, .int (zI v1)), (4, .int (zI 12))] 312 [.int (zI v152)] := by
                      intro v152 fA90
                      refine j_istore hx [(5, .int (zI v152)), (0, .ref a), (1, .int (zI v1)), (4, .int (zI 12))] dX12_judges_312 (by decide) rfl ?_
                      refine j_aload_n hx 1 dX12_judges_314 rfl ?_
                      refine j_iload_n hx 2 dX12_judges_315 rfl ?_
                      refine j_aload_n hx 1 dX12_judges_316 rfl ?_
                      refine g13_45 hx hG ha kf_RX12_99 dX12_judges_317 ?_
                      refine j_iload_n hx 2 dX12_judges_320 rfl ?_
                      refine j_iald hx hG (zr (k := 45) (t2 := 98) hG ha rfl) (by decide) rfl (zlen hG (zr (k := 45) (t2 := 98) hG ha rfl) (n := 3) rfl rfl) (by omega) (by omega) (j := (v1).toNat) rfl (v := (s0 (gP G a 45) (v1).toNat)) (by rw [e_s88, zU_at (Or.inl (zne (zr (k := 30) (t2 := 87) hG ha rfl) (zr (k := 45) (t2 := 98) hG ha rfl) (by decide))), e_s87, zU_at (Or.inl (zne (zr (k := 30) (t2 := 87) hG ha rfl) (zr (k := 45) (t2 := 98) hG ha rfl) (by decide))), e_s11, zU_at (Or.inl (zne (zr (k := 30) (t2 := 87) hG ha rfl) (zr (k := 45) (t2 := 98) hG ha rfl) (by decide))), (zFr_g hF_s7 (zr (k := 45) (t2 := 98) hG ha rfl) (by decide))]) dX12_judges_321 ?_
                      have c339_91 : ∀ (v153 : Int), (0 ≤ v153 ∧ v153 ≤ 2) → JJ X E 6 G s88 0 0 [(0, .ref a), (1, .int (zI v1)), (4, .int (zI 12))] 339 [.int (zI v153), .int (zI v1), .ref a] := by
                        intro v153 fA92
                        have g154 : zc (s88 (gP G a 27)) = zc (s0 (gP G a 27)) := by rw [e_s88, zU_ne (zne (zr (k := 30) (t2 := 87) hG ha rfl) (zr (k := 27) (t2 := 84) hG ha rfl) (by decide)), e_s87, zU_ne (zne (zr (k := 30) (t2 := 87) hG ha rfl) (zr (k := 27) (t2 := 84) hG ha rfl) (by decide)), e_s11, zU_ne (zne (zr (k := 30) (t2 := 87) hG ha rfl) (zr (k := 27) (t2 := 84) hG ha rfl) (by decide)), hF_s7 (gP G a 27) (by rw [(zr (k := 27) (t2 := 84) hG ha rfl)]; decide)]
                        have g155 : s88 (gP G a 27) 488 = s0 (gP G a 27) 488 := (by rw [e_s88, zU_at (Or.inl (zne (zr (k := 30) (t2 := 87) hG ha rfl) (zr (k := 27) (t2 := 84) hG ha rfl) (by decide))), e_s87, zU_at (Or.inl (zne (zr (k := 30) (t2 := 87) hG ha rfl) (zr (k := 27) (t2 := 84) hG ha rfl) (by decide))), e_s11, zU_at (Or.inl (zne (zr (k := 30) (t2 := 87) hG ha rfl) (zr (k := 27) (t2 := 84) hG ha rfl) (by decide))), (zFr_g hF_s7 (zr (k := 27) (t2 := 84) hG ha rfl) (by decide))])
                        refine j_callV hx hG (c_X12_counts hst a v1 v153) lk_RX12_388 ha (by decide) rfl rfl rfl rfl [.int (zI v1), .int (zI v153)] ⟨rfl, hG, hS_s88, ha, (by omega), (by omega)⟩ rfl rfl ⟨by decide, by decide⟩ ⟨by decide, by decide⟩ (k2 := 0) (n2 := 0) rfl rfl (Nat.le_of_ble_eq_true rfl) dX12_judges_339 (kVM (fun s93 hS_s93 hF_s93 q157 => ?_))
                        refine j_aload_n hx 0 dX12_judges_342 rfl ?_
                        refine g13_30 hx hG ha kf_RX12_65 dX12_judges_343 ?_
                        refine j_iconst hx dX12_judges_346 ?_
                        refine j_iload_n hx 1 dX12_judges_347 rfl ?_
                        refine j_iast hx hG (zr (k := 30) (t2 := 87) hG ha rfl) (by decide) rfl (zlen hG (zr (k := 30) (t2 := 87) hG ha rfl) (n := 5) rfl rfl) (by omega) (by omega) (j := 0) rfl dX12_judges_348 ?_
                        obtain ⟨s94, e_s94⟩ : ∃ z, z = zU s93 (gP G a 30) 0 v1 := ⟨_, rfl⟩
                        rw [← e_s94]
                        have hS_s94 : zSK G s94 := by rw [e_s94]; exact zSK_A hS_s93 (zr (k := 30) (t2 := 87) hG ha rfl) rfl rfl rfl (by omega)
                        refine j_aload_n hx 0 dX12_judges_349 rfl ?_
                        refine g13_30 hx hG ha kf_RX12_65 dX12_judges_350 ?_
                        refine j_iconst hx dX12_judges_353 ?_
                        refine j_aload_n hx 0 dX12_judges_354 rfl ?_
                        refine j_iload_n hx 1 dX12_judges_355 rfl ?_
                        refine j_iload hx 2 dX12_judges_356 rfl ?_
                        have g158 : zc (s94 (gP G a 27)) = zc (s93 (gP G a 27)) := by rw [e_s94, zU_ne (zne (zr (k := 30) (t2 := 87) hG ha rfl) (zr (k := 27) (t2 := 84) hG ha rfl) (by decide))]
                        have g159 : s94 (gP G a 27) 488 = s93 (gP G a 27) 488 := (by rw [e_s94, zU_at (Or.inl (zne (zr (k := 30) (t2 := 87) hG ha rfl) (zr (k := 27) (t2 := 84) hG ha rfl) (by decide)))])
                        refine j_callV hx hG (c_X12_wins hst a v1 12) lk_RX12_394 ha (by decide) rfl rfl rfl rfl [.int (zI v1), .int (zI 12)] ⟨rfl, hG, hS_s94, ha, (by omega), (by omega), (by omega), (by omega)⟩ rfl rfl ⟨by decide, by decide⟩ ⟨by decide, by decide⟩ (k2 := 0) (n2 := 0) rfl rfl (Nat.le_of_ble_eq_true rfl) dX12_judges_358 (kIM (fun v160 s95 hS_s95 hF_s95 q161 => ?_))
                        refine j_iast hx hG (zr (k := 30) (t2 := 87) hG ha rfl) (by decide) rfl (zlen hG (zr (k := 30) (t2 := 87) hG ha rfl) (n := 5) rfl rfl) (by omega) (by omega) (j := 4) rfl dX12_judges_361 ?_
                        obtain ⟨s96, e_s96⟩ : ∃ z, z = zU s95 (gP G a 30) 4 v160 := ⟨_, rfl⟩
                        rw [← e_s96]
                        have hS_s96 : zSK G s96 := by rw [e_s96]; exact zSK_A hS_s95 (zr (k := 30) (t2 := 87) hG ha rfl) rfl rfl rfl (by omega)
                        refine j_aload_n hx 0 dX12_judges_362 rfl ?_
                        refine g13_27 hx hG ha kf_RX12_56 dX12_judges_363 ?_
                        refine j_sipush hx dX12_judges_366 rfl ?_
                        refine j_iload_n hx 1 dX12_judges_369 rfl ?_
                        refine j_iadd hx (r := v1 + 512) dX12_judges_370 (by omega) ?_
                        refine j_dup2 hx dX12_judges_371 rfl rfl ?_
                        have f162 := zaQ (j := (v1 + 512).toNat) hS_s95 (zr (k := 27) (t2 := 84) hG ha rfl) (congrArg some (axS_8 (v1 + 512).toNat (by omega))) (zlen hG (zr (k := 27) (t2 := 84) hG ha rfl) (n := 515) rfl rfl) (show 0 ≤ v1 + 512 by omega) (by omega) rfl
                        refine j_iald hx hG (zr (k := 27) (t2 := 84) hG ha rfl) (by decide) rfl (zlen hG (zr (k := 27) (t2 := 84) hG ha rfl) (n := 515) rfl rfl) (by omega) (by omega) (j := (v1 + 512).toNat) rfl (v := (s95 (gP G a 27) (v1 + 512).toNat)) (by rw [e_s96, zU_at (Or.inl (zne (zr (k := 30) (t2 := 87) hG ha rfl) (zr (k := 27) (t2 := 84) hG ha rfl) (by decide)))]) dX12_judges_372 ?_
                        refine j_aload_n hx 0 dX12_judges_373 rfl ?_
                        refine g13_30 hx hG ha kf_RX12_65 dX12_judges_374 ?_
                        refine j_iconst hx dX12_judges_377 ?_
                        refine j_iald hx hG (zr (k := 30) (t2 := 87) hG ha rfl) (by decide) rfl (zlen hG (zr (k := 30) (t2 := 87) hG ha rfl) (n := 5) rfl rfl) (by omega) (by omega) (j := 4) rfl (v := v160) (by rw [e_s96, zU_eq]) dX12_judges_378 ?_
                        refine j_iadd hx (r := (s95 (gP G a 27) (v1 + 512).toNat) + v160) dX12_judges_379 (by omega) ?_
                        refine j_norm (fun v163 f164 f165 f166 => ?_)
                        refine j_iast hx hG (zr (k := 27) (t2 := 84) hG ha rfl) (by decide) rfl (zlen hG (zr (k := 27) (t2 := 84) hG ha rfl) (n := 515) rfl rfl) (by omega) (by omega) (j := (v1 + 512).toNat) rfl dX12_judges_380 ?_
                        obtain ⟨s97, e_s97⟩ : ∃ z, z = zU s96 (gP G a 27) (v1 + 512).toNat v163 := ⟨_, rfl⟩
                        rw [← e_s97]
                        have hS_s97 : zSK G s97 := by rw [e_s97]; exact zSK_a hS_s96 (zr (k := 27) (t2 := 84) hG ha rfl) rfl rfl (congrArg some (axS_8 (v1 + 512).toNat (by omega))) (by omega)
                        have g168 : zc (s96 (gP G a 27)) = zc (s95 (gP G a 27)) := by rw [e_s96, zU_ne (zne (zr (k := 30) (t2 := 87) hG ha rfl) (zr (k := 27) (t2 := 84) hG ha rfl) (by decide))]
                        have z167 : zc (s97 (gP G a 27)) = zc (s96 (gP G a 27)) := by rw [e_s97]; exact zc_o (by omega)
                        have g169 : s97 (gP G a 27) 488 = s95 (gP G a 27) 488 := (by rw [e_s97, zU_at (Or.inr (by omega)), e_s96, zU_at (Or.inl (zne (zr (k := 30) (t2 := 87) hG ha rfl) (zr (k := 27) (t2 := 84) hG ha rfl) (by decide)))])
                        exact j_vret hx hq rfl (by decide) (by decide) dX12_judges_381 ⟨rfl, rfl, hS_s97, (zFr_u (zFr_u (zFr_t (zFr_u (zFr_t (zFr_u (zFr_u (zFr_u (zFr_t zFr_rf hF_s7 (by decide)) e_s11 (zr (k := 30) (t2 := 87) hG ha rfl) (by decide)) e_s87 (zr (k := 30) (t2 := 87) hG ha rfl) (by decide)) e_s88 (zr (k := 30) (t2 := 87) hG ha rfl) (by decide)) hF_s93 (by decide)) e_s94 (zr (k := 30) (t2 := 87) hG ha rfl) (by decide)) hF_s95 (by decide)) e_s96 (zr (k := 30) (t2 := 87) hG ha rfl) (by decide)) e_s97 (zr (k := 27) (t2 := 84) hG ha rfl) (by decide)), ⟨by omega, by omega⟩⟩
                      refine j_if_lt hx 329 dX12_judges_322 rfl (by omega) (fun h170 => ?_) (fun h170 => ?_)
                      · skip
                        refine j_iload hx 0 dX12_judges_329 rfl ?_
                        refine j_if_eq hx 338 dX12_judges_331 rfl (by omega) (fun h171 => ?_) (fun h171 => ?_)
                        · skip
                          refine j_iconst hx dX12_judges_338 ?_
                          exact j_sub [1, 2, 3] [(0, .ref a), (1, .int (zI v1)), (4, .int (zI 12))] rfl (c339_91 1 (by omega))
                        · skip
                          refine j_iconst hx dX12_judges_334 ?_
                          refine j_goto hx 339 dX12_judges_335 rfl ?_
                          exact j_sub [1, 2, 3] [(0, .ref a), (1, .int (zI v1)), (4, .int (zI 12))] rfl (c339_91 2 (by omega))
                      · skip
                        refine j_iconst hx dX12_judges_325 ?_
                        refine j_goto hx 339 dX12_judges_326 rfl ?_
                        exact j_sub [1, 2, 3] [(0, .ref a), (1, .int (zI v1)), (4, .int (zI 12))] rfl (c339_91 0 (by omega))
                    have c311_98 : JJ X E 6 G s88 0 0 [(0, .ref a), (1, .int (zI v1)), (4, .int (zI 12))] 311 [] := by
                      refine j_iconst hx dX12_judges_311 ?_
                      exact j_sub [0, 1, 2] [(0, .ref a), (1, .int (zI v1)), (4, .int (zI 12))] rfl (c312_89 0 (by omega))
                    refine j_if_eq hx 311 dX12_judges_291 rfl (by omega) (fun h172 => ?_) (fun h172 => ?_)
                    · skip
                      exact j_sub [0, 1, 2] [(0, .ref a), (1, .int (zI v1)), (4, .int (zI 12))] rfl (c311_98  )
                    · skip
                      refine j_aload_n hx 0 dX12_judges_294 rfl ?_
                      refine g13_17 hx hG ha kf_RX12_44 dX12_judges_295 ?_
                      refine j_iconst hx dX12_judges_298 ?_
                      refine j_iload_n hx 1 dX12_judges_299 rfl ?_
                      refine j_imul hx (r := 4 * v1) dX12_judges_300 rfl ?_
                      refine j_iconst hx dX12_judges_301 ?_
                      refine j_iadd hx (r := 4 * v1 + 1) dX12_judges_302 (by omega) ?_
                      have f173 := zaI (j := (4 * v1 + 1).toNat) hS0 (zr (k := 17) (t2 := 80) hG ha rfl) rfl (zlen hG (zr (k := 17) (t2 := 80) hG ha rfl) (n := 12) rfl rfl) (show 0 ≤ 4 * v1 + 1 by omega) (by omega) rfl
                      refine j_iald hx hG (zr (k := 17) (t2 := 80) hG ha rfl) (by decide) rfl (zlen hG (zr (k := 17) (t2 := 80) hG ha rfl) (n := 12) rfl rfl) (by omega) (by omega) (j := (4 * v1 + 1).toNat) rfl (v := (s0 (gP G a 17) (4 * v1 + 1).toNat)) (by rw [e_s88, zU_at (Or.inl (zne (zr (k := 30) (t2 := 87) hG ha rfl) (zr (k := 17) (t2 := 80) hG ha rfl) (by decide))), e_s87, zU_at (Or.inl (zne (zr (k := 30) (t2 := 87) hG ha rfl) (zr (k := 17) (t2 := 80) hG ha rfl) (by decide))), e_s11, zU_at (Or.inl (zne (zr (k := 30) (t2 := 87) hG ha rfl) (zr (k := 17) (t2 := 80) hG ha rfl) (by decide))), (zFr_g hF_s7 (zr (k := 17) (t2 := 80) hG ha rfl) (by decide))]) dX12_judges_303 ?_
                      refine j_if_le hx 311 dX12_judges_304 rfl (by omega) (fun h174 => ?_) (fun h174 => ?_)
                      · skip
                        exact j_sub [0, 1, 2] [(0, .ref a), (1, .int (zI v1)), (4, .int (zI 12))] rfl (c311_98  )
                      · skip
                        refine j_iconst hx dX12_judges_307 ?_
                        refine j_goto hx 312 dX12_judges_308 rfl ?_
                        exact j_sub [0, 1, 2] [(0, .ref a), (1, .int (zI v1)), (4, .int (zI 12))] rfl (c312_89 1 (by omega))
                  refine j_icmp_le hx 250 dX12_judges_146 rfl (by omega) ⟨by decide, by decide⟩ (fun h175 => ?_) (fun h175 => ?_)
                  · skip
                    exact j_sub [1, 2, 0] [(0, .ref a), (1, .int (zI v1)), (4, .int (zI 12))] rfl (c250_86  )
                  · skip
                    refine j_aload_n hx 1 dX12_judges_149 rfl ?_
                    refine g13_27 hx hG ha kf_RX12_56 dX12_judges_150 ?_
                    refine j_sipush hx dX12_judges_153 rfl ?_
                    have f176 := zaQ (j := 492) hS0 (zr (k := 27) (t2 := 84) hG ha rfl) (congrArg some (axS_7 492 (by omega))) (zlen hG (zr (k := 27) (t2 := 84) hG ha rfl) (n := 515) rfl rfl) (show 0 ≤ 492 by omega) (by omega) rfl
                    refine j_iald hx hG (zr (k := 27) (t2 := 84) hG ha rfl) (by decide) rfl (zlen hG (zr (k := 27) (t2 := 84) hG ha rfl) (n := 515) rfl rfl) (by omega) (by omega) (j := 492) rfl (v := (s0 (gP G a 27) 492)) (by rw [e_s11, zU_at (Or.inl (zne (zr (k := 30) (t2 := 87) hG ha rfl) (zr (k := 27) (t2 := 84) hG ha rfl) (by decide))), (zFr_g hF_s7 (zr (k := 27) (t2 := 84) hG ha rfl) (by decide))]) dX12_judges_156 ?_
                    refine j_if_le hx 250 dX12_judges_157 rfl (by omega) (fun h177 => ?_) (fun h177 => ?_)
                    · skip
                      exact j_sub [1, 2, 0] [(0, .ref a), (1, .int (zI v1)), (4, .int (zI 12))] rfl (c250_86  )
                    · skip
                      refine j_iconst hx dX12_judges_160 ?_
                      refine j_istore hx [(5, .int (zI 0)), (4, .int (zI 12)), (0, .ref a), (1, .int (zI v1)), (2, .int (zI v2)), (3, .int (zI v3))] dX12_judges_161 (by decide) rfl ?_
                      have g179 : s11 (gP G a 27) 488 = s0 (gP G a 27) 488 := (by rw [e_s11, zU_at (Or.inl (zne (zr (k := 30) (t2 := 87) hG ha rfl) (zr (k := 27) (t2 := 84) hG ha rfl) (by decide))), (zFr_g hF_s7 (zr (k := 27) (t2 := 84) hG ha rfl) (by decide))])
                      have g180 : zc (s11 (gP G a 27)) = zc (s0 (gP G a 27)) := by rw [e_s11, zU_ne (zne (zr (k := 30) (t2 := 87) hG ha rfl) (zr (k := 27) (t2 := 84) hG ha rfl) (by decide)), hF_s7 (gP G a 27) (by rw [(zr (k := 27) (t2 := 84) hG ha rfl)]; decide)]
                      have c163_99 : ∀ (m_c163_99 : Nat) (v178 : Int) (s100 : zS), 2147483648 - v178 < m_c163_99 → (0 ≤ v178 ∧ v178 ≤ 3) → (zSK G s100) → (zFr [84] G s11 s100) → (zc (s100 (gP G a 27)) = zc (s11 (gP G a 27))) → (s100 (gP G a 27) 488 = s11 (gP G a 27) 488) → JJ X E 6 G s100 0 0 [(0, .ref a), (1, .int (zI v1)), (4, .int (zI 12)), (5, .int (zI v178))] 163 [] := by
                        intro m_c163_99
                        induction m_c163_99 with
                        | zero => intro v178 s100 hm_c163_99 fA101 hS_s100 hF_s100 fA104 fA105; exfalso; omega
                        | succ m_c163_99 ih_c163_99 => 
                          intro v178 s100 hm_c163_99 fA101 hS_s100 hF_s100 fA104 fA105
                          refine j_iload hx 3 dX12_judges_163 rfl ?_
                          refine j_aload_n hx 0 dX12_judges_165 rfl ?_
                          refine g13_24 hx hG ha kf_RX12_189 (v := (s0 a 24)) (by rw [(zFr_g hF_s100 ha (by decide)), e_s11, zU_at (Or.inl (zne (zr (k := 30) (t2 := 87) hG ha rfl) ha (by decide))), (zFr_g hF_s7 ha (by decide))]) dX12_judges_166 ?_
                          refine j_icmp_ge hx 201 dX12_judges_169 rfl (by omega) (by omega) (fun h181 => ?_) (fun h181 => ?_)
                          · skip
                            refine j_aload_n hx 0 dX12_judges_201 rfl ?_
                            refine g13_27 hx hG ha kf_RX12_56 dX12_judges_202 ?_
                            refine j_sipush hx dX12_judges_205 rfl ?_
                            have f182 := zaQ (j := 492) hS_s100 (zr (k := 27) (t2 := 84) hG ha rfl) (congrArg some (axS_7 492 (by omega))) (zlen hG (zr (k := 27) (t2 := 84) hG ha rfl) (n := 515) rfl rfl) (show 0 ≤ 492 by omega) (by omega) rfl
                            refine j_iald hx hG (zr (k := 27) (t2 := 84) hG ha rfl) (by decide) rfl (zlen hG (zr (k := 27) (t2 := 84) hG ha rfl) (n := 515) rfl rfl) (by omega) (by omega) (j := 492) rfl rfl dX12_judges_208 ?_
                            refine j_iconst hx dX12_judges_209 ?_
                            refine j_icmp_ne hx 249 dX12_judges_210 rfl (by omega) ⟨by decide, by decide⟩ (fun h183 => ?_) (fun h183 => ?_)
                            · skip
                              exact j_vret hx hq rfl (by decide) (by decide) dX12_judges_249 ⟨rfl, rfl, hS_s100, (zFr_t (zFr_u (zFr_t zFr_rf hF_s7 (by decide)) e_s11 (zr (k := 30) (t2 := 87) hG ha rfl) (by decide)) hF_s100 (by decide)), ⟨by omega, by omega⟩⟩
                            · skip
                              refine j_iload hx 2 dX12_judges_213 rfl ?_
                              refine j_iconst hx dX12_judges_215 ?_
                              refine j_icmp_eq hx 249 dX12_judges_216 rfl ⟨by decide, by decide⟩ ⟨by decide, by decide⟩ (fun h184 => absurd h184 (by omega)) (fun h184 => ?_)
                              refine j_aload_n hx 0 dX12_judges_219 rfl ?_
                              refine j_iload hx 2 dX12_judges_220 rfl ?_
                              refine j_bipush hx dX12_judges_222 rfl ?_
                              refine j_idiv hx dX12_judges_224 ⟨by decide, by decide⟩ ⟨by decide, by decide⟩ (by decide) (fun v185 f186 f187 f188 => ?_)
                              refine j_sipush hx dX12_judges_225 rfl ?_
                              refine j_sipush hx dX12_judges_228 rfl ?_
                              refine j_callV hx hG (c_X12_comes hst a v185 360 486) lk_RX12_365 ha (by decide) rfl rfl rfl rfl [.int (zI v185), .int (zI 360), .int (zI 486)] ⟨rfl, hG, hS_s100, ha, (by omega), (by omega), (by omega), (by omega), (by omega)⟩ rfl rfl ⟨by decide, by decide⟩ ⟨by decide, by decide⟩ (k2 := 0) (n2 := 0) rfl rfl (Nat.le_of_ble_eq_true rfl) dX12_judges_231 (kVM (fun s106 hS_s106 hF_s106 q192 => ?_))
                              refine j_aload_n hx 0 dX12_judges_234 rfl ?_
                              refine j_iload hx 2 dX12_judges_235 rfl ?_
                              refine j_bipush hx dX12_judges_237 rfl ?_
                              refine j_irem hx dX12_judges_239 ⟨by decide, by decide⟩ ⟨by decide, by decide⟩ (by decide) (fun v193 f194 f195 f196 f197 => ?_)
                              refine j_sipush hx dX12_judges_240 rfl ?_
                              refine j_sipush hx dX12_judges_243 rfl ?_
                              refine j_callV hx hG (c_X12_comes hst a v193 360 486) lk_RX12_365 ha (by decide) rfl rfl rfl rfl [.int (zI v193), .int (zI 360), .int (zI 486)] ⟨rfl, hG, hS_s106, ha, (by omega), (by omega), (by omega), (by omega), (by omega)⟩ rfl rfl ⟨by decide, by decide⟩ ⟨by decide, by decide⟩ (k2 := 0) (n2 := 0) rfl rfl (Nat.le_of_ble_eq_true rfl) dX12_judges_246 (kVM (fun s107 hS_s107 hF_s107 q200 => ?_))
                              exact j_vret hx hq rfl (by decide) (by decide) dX12_judges_249 ⟨rfl, rfl, hS_s107, (zFr_t (zFr_t (zFr_t (zFr_u (zFr_t zFr_rf hF_s7 (by decide)) e_s11 (zr (k := 30) (t2 := 87) hG ha rfl) (by decide)) hF_s100 (by decide)) hF_s106 (by decide)) hF_s107 (by decide)), ⟨by omega, by omega⟩⟩
                          · skip
                            refine j_aload_n hx 0 dX12_judges_172 rfl ?_
                            refine g13_45 hx hG ha kf_RX12_99 dX12_judges_173 ?_
                            refine j_iload hx 3 dX12_judges_176 rfl ?_
                            have f201 := zaI (j := (v178).toNat) hS0 (zr (k := 45) (t2 := 98) hG ha rfl) rfl (zlen hG (zr (k := 45) (t2 := 98) hG ha rfl) (n := 3) rfl rfl) (show 0 ≤ v178 by omega) (by omega) rfl
                            refine j_iald hx hG (zr (k := 45) (t2 := 98) hG ha rfl) (by decide) rfl (zlen hG (zr (k := 45) (t2 := 98) hG ha rfl) (n := 3) rfl rfl) (by omega) (by omega) (j := (v178).toNat) rfl (v := (s0 (gP G a 45) (v178).toNat)) (by rw [(zFr_g hF_s100 (zr (k := 45) (t2 := 98) hG ha rfl) (by decide)), e_s11, zU_at (Or.inl (zne (zr (k := 30) (t2 := 87) hG ha rfl) (zr (k := 45) (t2 := 98) hG ha rfl) (by decide))), (zFr_g hF_s7 (zr (k := 45) (t2 := 98) hG ha rfl) (by decide))]) dX12_judges_178 ?_
                            refine j_aload_n hx 0 dX12_judges_179 rfl ?_
                            refine g13_45 hx hG ha kf_RX12_99 dX12_judges_180 ?_
                            refine j_iload_n hx 1 dX12_judges_183 rfl ?_
                            have f202 := zaI (j := (v1).toNat) hS0 (zr (k := 45) (t2 := 98) hG ha rfl) rfl (zlen hG (zr (k := 45) (t2 := 98) hG ha rfl) (n := 3) rfl rfl) (show 0 ≤ v1 by omega) (by omega) rfl
                            refine j_iald hx hG (zr (k := 45) (t2 := 98) hG ha rfl) (by decide) rfl (zlen hG (zr (k := 45) (t2 := 98) hG ha rfl) (n := 3) rfl rfl) (by omega) (by omega) (j := (v1).toNat) rfl (v := (s0 (gP G a 45) (v1).toNat)) (by rw [(zFr_g hF_s100 (zr (k := 45) (t2 := 98) hG ha rfl) (by decide)), e_s11, zU_at (Or.inl (zne (zr (k := 30) (t2 := 87) hG ha rfl) (zr (k := 45) (t2 := 98) hG ha rfl) (by decide))), (zFr_g hF_s7 (zr (k := 45) (t2 := 98) hG ha rfl) (by decide))]) dX12_judges_184 ?_
                            have c195_108 : ∀ (s109 : zS), (zSK G s109) → (zFr [84] G s100 s109) → (zc (s109 (gP G a 27)) = zc (s100 (gP G a 27))) → JJ X E 6 G s109 0 0 [(0, .ref a), (1, .int (zI v1)), (4, .int (zI 12)), (5, .int (zI v178))] 195 [] := by
                              intro s109 hS_s109 hF_s109 fA112
                              refine j_iinc hx 3 [(5, .int (zI (v178 + 1))), (0, .ref a), (1, .int (zI v1)), (4, .int (zI 12))] dX12_judges_195 rfl (by omega) (by decide) rfl ?_
                              refine j_goto hx 163 dX12_judges_198 rfl ?_
                              exact j_sub [1, 2, 3, 0] [(0, .ref a), (1, .int (zI v1)), (4, .int (zI 12)), (5, .int (zI (v178 + 1)))] rfl (ih_c163_99 (v178 + 1) s109 (by omega) (by omega) hS_s109 (zFr_t (zFr_t zFr_rf hF_s100 (by decide)) hF_s109 (by decide)) (by omega) (by omega))
                            refine j_icmp_ne hx 195 dX12_judges_185 rfl (by omega) (by omega) (fun h203 => ?_) (fun h203 => ?_)
                            · skip
                              exact j_sub [0, 1, 2, 3] [(0, .ref a), (1, .int (zI v1)), (4, .int (zI 12)), (5, .int (zI v178))] rfl (c195_108 s100 hS_s100 zFr_rf (by omega))
                            · skip
                              refine j_aload_n hx 0 dX12_judges_188 rfl ?_
                              refine j_iload hx 3 dX12_judges_189 rfl ?_
                              refine j_iconst hx dX12_judges_191 ?_
                              refine j_callV hx hG (c_X12_counts hst a v178 4) lk_RX12_388 ha (by decide) rfl rfl rfl rfl [.int (zI v178), .int (zI 4)] ⟨rfl, hG, hS_s100, ha, (by omega), (by omega)⟩ rfl rfl ⟨by decide, by decide⟩ ⟨by decide, by decide⟩ (k2 := 0) (n2 := 0) rfl rfl (Nat.le_of_ble_eq_true rfl) dX12_judges_192 (kVM (fun s113 hS_s113 hF_s113 q205 => ?_))
                              exact j_sub [0, 1, 2, 3] [(0, .ref a), (1, .int (zI v1)), (4, .int (zI 12)), (5, .int (zI v178))] rfl (c195_108 s113 hS_s113 (zFr_t zFr_rf hF_s113 (by decide)) (by omega))
                      exact j_sub [2, 3, 1, 0] [(0, .ref a), (1, .int (zI v1)), (4, .int (zI 12)), (5, .int (zI 0))] rfl (c163_99 (2147483648 * 4) 0 s11 (by omega) (by omega) hS_s11 zFr_rf (by omega) (by omega))
              · skip
                have g206 : zc (s11 (gP G a 27)) = zc (s0 (gP G a 27)) := by rw [e_s11, zU_ne (zne (zr (k := 30) (t2 := 87) hG ha rfl) (zr (k := 27) (t2 := 84) hG ha rfl) (by decide)), hF_s7 (gP G a 27) (by rw [(zr (k := 27) (t2 := 84) hG ha rfl)]; decide)]
                have g207 : s11 (gP G a 27) 488 = s0 (gP G a 27) 488 := (by rw [e_s11, zU_at (Or.inl (zne (zr (k := 30) (t2 := 87) hG ha rfl) (zr (k := 27) (t2 := 84) hG ha rfl) (by decide))), (zFr_g hF_s7 (zr (k := 27) (t2 := 84) hG ha rfl) (by decide))])
                exact j_vret hx hq rfl (by decide) (by decide) dX12_judges_137 ⟨rfl, rfl, hS_s11, (zFr_u (zFr_t zFr_rf hF_s7 (by decide)) e_s11 (zr (k := 30) (t2 := 87) hG ha rfl) (by decide)), ⟨by omega, by omega⟩⟩
            · skip
              refine j_aload_n hx 0 dX12_judges_101 rfl ?_
              refine g13_30 hx hG ha kf_RX12_65 dX12_judges_102 ?_
              refine j_iload hx 4 dX12_judges_105 rfl ?_
              refine j_iload hx 4 dX12_judges_107 rfl ?_
              refine j_iconst hx dX12_judges_109 ?_
              have c118_114 : ∀ (v208 : Int), ((-1) ≤ v208 ∧ v208 ≤ 0) → JJ X E 6 G s7 0 0 [(0, .ref a), (1, .int (zI v1)), (2, .int (zI v2)), (3, .int (zI v3)), (4, .int (zI v7))] 118 [.int (zI v208), .int (zI v7), .ref (gP G a 30)] := by
                intro v208 fA115
                refine j_iast hx hG (zr (k := 30) (t2 := 87) hG ha rfl) (by decide) rfl (zlen hG (zr (k := 30) (t2 := 87) hG ha rfl) (n := 5) rfl rfl) (by omega) (by omega) (j := (v7).toNat) rfl dX12_judges_118 ?_
                obtain ⟨s116, e_s116⟩ : ∃ z, z = zU s7 (gP G a 30) (v7).toNat v208 := ⟨_, rfl⟩
                rw [← e_s116]
                have hS_s116 : zSK G s116 := by rw [e_s116]; exact zSK_A hS_s7 (zr (k := 30) (t2 := 87) hG ha rfl) rfl rfl rfl (by omega)
                refine j_iinc hx 4 [(4, .int (zI (v7 + 1))), (0, .ref a), (1, .int (zI v1)), (2, .int (zI v2)), (3, .int (zI v3))] dX12_judges_119 rfl (by omega) (by decide) rfl ?_
                refine j_goto hx 95 dX12_judges_122 rfl ?_
                exact j_sub [1, 2, 3, 4, 0] [(0, .ref a), (1, .int (zI v1)), (2, .int (zI v2)), (3, .int (zI v3)), (4, .int (zI (v7 + 1)))] rfl (ih_c95_6 (v7 + 1) s116 (by omega) (by omega) hS_s116 (zFr_u (zFr_t zFr_rf hF_s7 (by decide)) e_s116 (zr (k := 30) (t2 := 87) hG ha rfl) (by decide)))
              refine j_icmp_ge hx 117 dX12_judges_110 rfl (by omega) ⟨by decide, by decide⟩ (fun h209 => ?_) (fun h209 => ?_)
              · skip
                refine j_iconst hx dX12_judges_117 ?_
                exact j_sub [0, 1, 2, 3, 4] [(0, .ref a), (1, .int (zI v1)), (2, .int (zI v2)), (3, .int (zI v3)), (4, .int (zI v7))] rfl (c118_114 0 (by omega))
              · skip
                refine j_iconst hx dX12_judges_113 ?_
                refine j_goto hx 118 dX12_judges_114 rfl ?_
                exact j_sub [0, 1, 2, 3, 4] [(0, .ref a), (1, .int (zI v1)), (2, .int (zI v2)), (3, .int (zI v3)), (4, .int (zI v7))] rfl (c118_114 (-1) (by omega))
        exact j_sub [1, 2, 3, 4, 0] [(0, .ref a), (1, .int (zI v1)), (2, .int (zI v2)), (3, .int (zI v3)), (4, .int (zI 0))] rfl (c95_6 (2147483648 * 4) 0 s0 (by omega) (by omega) hS0 zFr_rf)
      · skip
        refine j_aload_n hx 0 dX12_judges_18 rfl ?_
        refine g13_45 hx hG ha kf_RX12_99 dX12_judges_19 ?_
        refine j_iload hx 4 dX12_judges_22 rfl ?_
        have f210 := zaI (j := (v4).toNat) hS0 (zr (k := 45) (t2 := 98) hG ha rfl) rfl (zlen hG (zr (k := 45) (t2 := 98) hG ha rfl) (n := 3) rfl rfl) (show 0 ≤ v4 by omega) (by omega) rfl
        refine j_iald hx hG (zr (k := 45) (t2 := 98) hG ha rfl) (by decide) rfl (zlen hG (zr (k := 45) (t2 := 98) hG ha rfl) (n := 3) rfl rfl) (by omega) (by omega) (j := (v4).toNat) rfl rfl dX12_judges_24 ?_
        refine j_bipush hx dX12_judges_25 rfl ?_
        have c86_117 : ∀ (v211 : Int) (v212 : Int) (v213 : Int), ((-1) ≤ v211 ∧ v211 ≤ 2) → ((-2147483648) ≤ v212 ∧ v212 ≤ 2147483647) → ((-2147483648) ≤ v213 ∧ v213 ≤ 2147483647) → JJ X E 6 G s0 0 0 [(0, .ref a), (1, .int (zI v211)), (2, .int (zI v212)), (3, .int (zI v213)), (4, .int (zI v4))] 86 [] := by
          intro v211 v212 v213 fA118 fA119 fA120
          refine j_iinc hx 4 [(4, .int (zI (v4 + 1))), (0, .ref a), (1, .int (zI v211)), (2, .int (zI v212)), (3, .int (zI v213))] dX12_judges_86 rfl (by omega) (by decide) rfl ?_
          refine j_goto hx 9 dX12_judges_89 rfl ?_
          exact j_sub [1, 2, 3, 4, 0] [(0, .ref a), (1, .int (zI v211)), (2, .int (zI v212)), (3, .int (zI v213)), (4, .int (zI (v4 + 1)))] rfl (ih_c9_1 v211 v212 v213 (v4 + 1) (by omega) (by omega) (by omega) (by omega) (by omega))
        refine j_icmp_ne hx 33 dX12_judges_27 rfl (by omega) ⟨by decide, by decide⟩ (fun h214 => ?_) (fun h214 => ?_)
        · skip
          refine j_iincN hx 2 (fun v215 => [(2, .int (zI v215)), (0, .ref a), (1, .int (zI v1)), (3, .int (zI v3)), (4, .int (zI v4))]) dX12_judges_33 rfl (by decide) (fun _ => rfl) (fun v215 f216 f217 f218 => ?_)
          refine j_iload_n hx 2 dX12_judges_36 rfl ?_
          refine j_iconst hx dX12_judges_37 ?_
          have c62_121 : ∀ (v219 : Int) (v220 : Int), (0 ≤ v219 ∧ v219 ≤ 2) → ((-2147483648) ≤ v220 ∧ v220 ≤ 2147483647) → JJ X E 6 G s0 0 0 [(0, .ref a), (1, .int (zI v219)), (2, .int (zI v215)), (3, .int (zI v220)), (4, .int (zI v4))] 62 [] := by
            intro v219 v220 fA122 fA123
            refine j_iload_n hx 3 dX12_judges_62 rfl ?_
            refine j_aload_n hx 0 dX12_judges_63 rfl ?_
            refine g13_45 hx hG ha kf_RX12_99 dX12_judges_64 ?_
            refine j_iload hx 4 dX12_judges_67 rfl ?_
            refine j_iald hx hG (zr (k := 45) (t2 := 98) hG ha rfl) (by decide) rfl (zlen hG (zr (k := 45) (t2 := 98) hG ha rfl) (n := 3) rfl rfl) (by omega) (by omega) (j := (v4).toNat) rfl rfl dX12_judges_69 ?_
            refine j_aload_n hx 0 dX12_judges_70 rfl ?_
            refine g13_45 hx hG ha kf_RX12_99 dX12_judges_71 ?_
            refine j_iload_n hx 1 dX12_judges_74 rfl ?_
            have f221 := zaI (j := (v219).toNat) hS0 (zr (k := 45) (t2 := 98) hG ha rfl) rfl (zlen hG (zr (k := 45) (t2 := 98) hG ha rfl) (n := 3) rfl rfl) (show 0 ≤ v219 by omega) (by omega) rfl
            refine j_iald hx hG (zr (k := 45) (t2 := 98) hG ha rfl) (by decide) rfl (zlen hG (zr (k := 45) (t2 := 98) hG ha rfl) (n := 3) rfl rfl) (by omega) (by omega) (j := (v219).toNat) rfl rfl dX12_judges_75 ?_
            have c84_124 : ∀ (v222 : Int), (0 ≤ v222 ∧ v222 ≤ 1) → JJ X E 6 G s0 0 0 [(0, .ref a), (1, .int (zI v219)), (2, .int (zI v215)), (4, .int (zI v4))] 84 [.int (zI v222), .int (zI v220)] := by
              intro v222 fA125
              refine j_iadd hx (r := v220 + v222) dX12_judges_84 rfl ?_
              refine j_norm (fun v223 f224 f225 f226 => ?_)
              refine j_istore_n hx [(3, .int (zI v223)), (0, .ref a), (1, .int (zI v219)), (2, .int (zI v215)), (4, .int (zI v4))] dX12_judges_85 (by decide) rfl ?_
              exact j_sub [1, 2, 3, 0, 4] [(0, .ref a), (1, .int (zI v219)), (2, .int (zI v215)), (3, .int (zI v223)), (4, .int (zI v4))] rfl (c86_117 v219 v215 v223 (by omega) (by omega) (by omega))
            refine j_icmp_ne hx 83 dX12_judges_76 rfl (by omega) (by omega) (fun h227 => ?_) (fun h227 => ?_)
            · skip
              refine j_iconst hx dX12_judges_83 ?_
              exact j_sub [0, 1, 2, 4] [(0, .ref a), (1, .int (zI v219)), (2, .int (zI v215)), (4, .int (zI v4))] rfl (c84_124 0 (by omega))
            · skip
              refine j_iconst hx dX12_judges_79 ?_
              refine j_goto hx 84 dX12_judges_80 rfl ?_
              exact j_sub [0, 1, 2, 4] [(0, .ref a), (1, .int (zI v219)), (2, .int (zI v215)), (4, .int (zI v4))] rfl (c84_124 1 (by omega))
          have c57_126 : JJ X E 6 G s0 0 0 [(0, .ref a), (2, .int (zI v215)), (4, .int (zI v4))] 57 [] := by
            refine j_iload hx 2 dX12_judges_57 rfl ?_
            refine j_istore_n hx [(1, .int (zI v4)), (0, .ref a), (2, .int (zI v215)), (4, .int (zI v4))] dX12_judges_59 (by decide) rfl ?_
            refine j_iconst hx dX12_judges_60 ?_
            refine j_istore_n hx [(3, .int (zI 0)), (1, .int (zI v4)), (0, .ref a), (2, .int (zI v215)), (4, .int (zI v4))] dX12_judges_61 (by decide) rfl ?_
            exact j_sub [2, 1, 3, 0, 4] [(0, .ref a), (1, .int (zI v4)), (2, .int (zI v215)), (3, .int (zI 0)), (4, .int (zI v4))] rfl (c62_121 v4 0 (by omega) (by omega))
          refine j_icmp_eq hx 57 dX12_judges_38 rfl (by omega) ⟨by decide, by decide⟩ (fun h228 => ?_) (fun h228 => ?_)
          · skip
            exact j_sub [1, 0, 4] [(0, .ref a), (2, .int (zI v215)), (4, .int (zI v4))] rfl (c57_126  )
          · skip
            refine j_aload_n hx 1 dX12_judges_41 rfl ?_
            refine g13_45 hx hG ha kf_RX12_99 dX12_judges_42 ?_
            refine j_iload hx 4 dX12_judges_45 rfl ?_
            refine j_iald hx hG (zr (k := 45) (t2 := 98) hG ha rfl) (by decide) rfl (zlen hG (zr (k := 45) (t2 := 98) hG ha rfl) (n := 3) rfl rfl) (by omega) (by omega) (j := (v4).toNat) rfl rfl dX12_judges_47 ?_
            refine j_aload_n hx 1 dX12_judges_48 rfl ?_
            refine g13_45 hx hG ha kf_RX12_99 dX12_judges_49 ?_
            refine j_iload_n hx 2 dX12_judges_52 rfl ?_
            have f229 := zaI (j := (v1).toNat) hS0 (zr (k := 45) (t2 := 98) hG ha rfl) rfl (zlen hG (zr (k := 45) (t2 := 98) hG ha rfl) (n := 3) rfl rfl) (show 0 ≤ v1 by omega) (by omega) rfl
            refine j_iald hx hG (zr (k := 45) (t2 := 98) hG ha rfl) (by decide) rfl (zlen hG (zr (k := 45) (t2 := 98) hG ha rfl) (n := 3) rfl rfl) (by omega) (by omega) (j := (v1).toNat) rfl rfl dX12_judges_53 ?_
            refine j_icmp_ge hx 62 dX12_judges_54 rfl (by omega) (by omega) (fun h230 => ?_) (fun h230 => ?_)
            · skip
              exact j_sub [1, 2, 0, 3, 4] [(0, .ref a), (1, .int (zI v1)), (2, .int (zI v215)), (3, .int (zI v3)), (4, .int (zI v4))] rfl (c62_121 v1 v3 (by omega) (by omega))
            · skip
              exact j_sub [1, 0, 4] [(0, .ref a), (2, .int (zI v215)), (4, .int (zI v4))] rfl (c57_126  )
        · skip
          refine j_goto hx 86 dX12_judges_30 rfl ?_
          exact j_sub [0, 1, 2, 3, 4] [(0, .ref a), (1, .int (zI v1)), (2, .int (zI v2)), (3, .int (zI v3)), (4, .int (zI v4))] rfl (c86_117 v1 v2 v3 (by omega) (by omega) (by omega))
  exact j_sub [4, 3, 2, 1, 0] [(0, .ref a), (1, .int (zI (-1))), (2, .int (zI 0)), (3, .int (zI 0)), (4, .int (zI 0))] rfl (c9_1 (2147483648 * 4) (-1) 0 0 0 (by omega) (by omega) (by omega) (by omega) (by omega))
