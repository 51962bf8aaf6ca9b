set_option maxHeartbeats 1200000 in
set_option maxRecDepth 20000 in
theorem c_X12_take {E : zE} {l : Launch} (hst : l.stackTraces = false) (a : Nat) (x1 : Int) (x2 : Int) (x3 : Int) (x4 : Int) : Con E l yX12_take cX12_take 6 none { frames := 0, cells := 0, slots := 0, locals := 0 } (fun G s vs => vs = [.ref a, .int (zI x1), .int (zI x2), .int (zI x3), .int (zI x4)] ∧ zGK G ∧ zSK G s ∧ (gT G a = 13) ∧ (180 ≤ x1 ∧ x1 ≤ 360) ∧ (483 ≤ x2 ∧ x2 ≤ 486) ∧ (0 ≤ x3 ∧ x3 ≤ 360) ∧ (480 ≤ x4 ∧ x4 ≤ 486) ∧ (x2 ≠ x4) ∧ (zc (s (gP G a 27)) ≤ 60)) (fun G s _ => pV (fun G2 s2 => G2 = G ∧ zSK G s2 ∧ zFr [84] G s s2 ∧ zc (s2 (gP G a 27)) = zc (s (gP G a 27)) ∧ s2 (gP G a 27) (x2).toNat = s (gP G a 27) (x2).toNat ∧ s2 (gP G a 27) (x4).toNat = s (gP G a 27) (x4).toNat ∧ s2 (gP G a 27) 488 = s (gP G a 27) 488)) := by
  refine Con.mk hst (by decide) (fun G s vs h => by rw [h.1]; exact Nat.le_of_ble_eq_true rfl) ?_
  rintro X G s0 vs ⟨rfl, hG, hS0, ha, hx1, hx2, hx3, hx4, e0, e1⟩ rfl hx hq
  show JJ X E 6 G s0 0 0 [(0, .ref a), (1, .int (zI x1)), (2, .int (zI x2)), (3, .int (zI x3)), (4, .int (zI x4))] 0 []
  refine j_iconst hx dX12_take_0 ?_
  refine j_istore hx [(5, .int (zI 0)), (0, .ref a), (1, .int (zI x1)), (2, .int (zI x2)), (3, .int (zI x3)), (4, .int (zI x4))] dX12_take_1 (by decide) rfl ?_
  have c3_1 : ∀ (m_c3_1 : Nat) (v1 : Int) (s2 : zS), 2147483648 - v1 < m_c3_1 → (0 ≤ v1 ∧ v1 ≤ 60) → (zSK G s2) → (zFr [84] G s0 s2) → (zc (s2 (gP G a 27)) = zc (s0 (gP G a 27))) → (s2 (gP G a 27) (x2).toNat = s0 (gP G a 27) (x2).toNat) → (s2 (gP G a 27) (x4).toNat = s0 (gP G a 27) (x4).toNat) → (s2 (gP G a 27) 488 = s0 (gP G a 27) 488) → JJ X E 6 G s2 0 0 [(0, .ref a), (1, .int (zI x1)), (2, .int (zI x2)), (3, .int (zI x3)), (4, .int (zI x4)), (5, .int (zI v1))] 3 [] := by
    intro m_c3_1
    induction m_c3_1 with
    | zero => intro v1 s2 hm_c3_1 fA3 hS_s2 hF_s2 fA6 fA7 fA8 fA9; exfalso; omega
    | succ m_c3_1 ih_c3_1 => 
      intro v1 s2 hm_c3_1 fA3 hS_s2 hF_s2 fA6 fA7 fA8 fA9
      refine j_iload hx 5 dX12_take_3 rfl ?_
      refine j_aload_n hx 0 dX12_take_5 rfl ?_
      refine g13_27 hx hG ha kf_RX12_56 dX12_take_6 ?_
      refine j_iload_n hx 2 dX12_take_9 rfl ?_
      have f2 := zaQ (j := (x2).toNat) hS_s2 (zr (k := 27) (t2 := 84) hG ha rfl) (congrArg some (axS_2 (x2).toNat (by omega))) (zlen hG (zr (k := 27) (t2 := 84) hG ha rfl) (n := 515) rfl rfl) (show 0 ≤ x2 by omega) (by omega) rfl
      have c3 := zc_1 (j := (x2).toNat) hS_s2 (zr (k := 27) (t2 := 84) hG ha rfl) (zn hG (zr (k := 27) (t2 := 84) hG ha rfl) rfl) (by omega) (by omega)
      refine j_iald hx hG (zr (k := 27) (t2 := 84) hG ha rfl) (by decide) rfl (zlen hG (zr (k := 27) (t2 := 84) hG ha rfl) (n := 515) rfl rfl) (by omega) (by omega) (j := (x2).toNat) rfl rfl dX12_take_10 ?_
      refine j_icmp_ge hx 46 dX12_take_11 rfl (by omega) (by omega) (fun h4 => ?_) (fun h4 => ?_)
      · skip
        exact j_vret hx hq rfl (by decide) (by decide) dX12_take_46 ⟨rfl, rfl, hS_s2, (zFr_t zFr_rf hF_s2 (by decide)), ⟨by omega, by omega, by omega, by omega⟩⟩
      · skip
        refine j_aload_n hx 0 dX12_take_14 rfl ?_
        refine g13_27 hx hG ha kf_RX12_56 dX12_take_15 ?_
        refine j_iload_n hx 3 dX12_take_18 rfl ?_
        refine j_aload_n hx 0 dX12_take_19 rfl ?_
        refine g13_27 hx hG ha kf_RX12_56 dX12_take_20 ?_
        refine j_iload hx 4 dX12_take_23 rfl ?_
        have f5 := zaQ (j := (x4).toNat) hS_s2 (zr (k := 27) (t2 := 84) hG ha rfl) (congrArg some (axS_2 (x4).toNat (by omega))) (zlen hG (zr (k := 27) (t2 := 84) hG ha rfl) (n := 515) rfl rfl) (show 0 ≤ x4 by omega) (by omega) rfl
        have c6 := zc_1 (j := (x4).toNat) hS_s2 (zr (k := 27) (t2 := 84) hG ha rfl) (zn hG (zr (k := 27) (t2 := 84) hG ha rfl) rfl) (by omega) (by omega)
        have c7 : (x2).toNat ≠ (x4).toNat → s2 (gP G a 27) (x2).toNat + s2 (gP G a 27) (x4).toNat ≤ zc (s2 (gP G a 27)) := fun e => zc_2 hS_s2 (zr (k := 27) (t2 := 84) hG ha rfl) (zn hG (zr (k := 27) (t2 := 84) hG ha rfl) rfl) (by omega) (by omega) (by omega) (by omega) e
        refine j_iald hx hG (zr (k := 27) (t2 := 84) hG ha rfl) (by decide) rfl (zlen hG (zr (k := 27) (t2 := 84) hG ha rfl) (n := 515) rfl rfl) (by omega) (by omega) (j := (x4).toNat) rfl rfl dX12_take_25 ?_
        refine j_iadd hx (r := x3 + (s2 (gP G a 27) (x4).toNat)) dX12_take_26 (by omega) ?_
        refine j_iload hx 5 dX12_take_27 rfl ?_
        refine j_iadd hx (r := x3 + (s2 (gP G a 27) (x4).toNat) + v1) dX12_take_29 (by omega) ?_
        refine j_aload_n hx 0 dX12_take_30 rfl ?_
        refine g13_27 hx hG ha kf_RX12_56 dX12_take_31 ?_
        refine j_iload_n hx 1 dX12_take_34 rfl ?_
        refine j_iload hx 5 dX12_take_35 rfl ?_
        refine j_iadd hx (r := x1 + v1) dX12_take_37 rfl ?_
        have f8 := zaQ (j := (x1 + v1).toNat) hS_s2 (zr (k := 27) (t2 := 84) hG ha rfl) (congrArg some (axS_0 (x1 + v1).toNat (by omega))) (zlen hG (zr (k := 27) (t2 := 84) hG ha rfl) (n := 515) rfl rfl) (show 0 ≤ x1 + v1 by omega) (by omega) rfl
        refine j_iald hx hG (zr (k := 27) (t2 := 84) hG ha rfl) (by decide) rfl (zlen hG (zr (k := 27) (t2 := 84) hG ha rfl) (n := 515) rfl rfl) (by omega) (by omega) (j := (x1 + v1).toNat) rfl rfl dX12_take_38 ?_
        refine j_iast hx hG (zr (k := 27) (t2 := 84) hG ha rfl) (by decide) rfl (zlen hG (zr (k := 27) (t2 := 84) hG ha rfl) (n := 515) rfl rfl) (by omega) (by omega) (j := (x3 + (s2 (gP G a 27) (x4).toNat) + v1).toNat) rfl dX12_take_39 ?_
        obtain ⟨s10, e_s10⟩ : ∃ z, z = zU s2 (gP G a 27) (x3 + (s2 (gP G a 27) (x4).toNat) + v1).toNat ((s2 (gP G a 27) (x1 + v1).toNat)) := ⟨_, rfl⟩
        rw [← e_s10]
        have hS_s10 : zSK G s10 := by rw [e_s10]; exact zSK_a hS_s2 (zr (k := 27) (t2 := 84) hG ha rfl) rfl rfl (congrArg some (axS_0 (x3 + (s2 (gP G a 27) (x4).toNat) + v1).toNat (by omega))) (by omega)
        have z9 : zc (s10 (gP G a 27)) = zc (s2 (gP G a 27)) := by rw [e_s10]; exact zc_o (by omega)
        refine j_iinc hx 5 [(5, .int (zI (v1 + 1))), (0, .ref a), (1, .int (zI x1)), (2, .int (zI x2)), (3, .int (zI x3)), (4, .int (zI x4))] dX12_take_40 rfl (by omega) (by decide) rfl ?_
        refine j_goto hx 3 dX12_take_43 rfl ?_
        have g10 : s10 (gP G a 27) (x2).toNat = s2 (gP G a 27) (x2).toNat := (by rw [e_s10, zU_at (Or.inr (by omega))])
        have g11 : s10 (gP G a 27) (x4).toNat = s2 (gP G a 27) (x4).toNat := (by rw [e_s10, zU_at (Or.inr (by omega))])
        have g12 : s10 (gP G a 27) 488 = s2 (gP G a 27) 488 := (by rw [e_s10, zU_at (Or.inr (by omega))])
        exact j_sub [1, 2, 3, 4, 5, 0] [(0, .ref a), (1, .int (zI x1)), (2, .int (zI x2)), (3, .int (zI x3)), (4, .int (zI x4)), (5, .int (zI (v1 + 1)))] rfl (ih_c3_1 (v1 + 1) s10 (by omega) (by omega) hS_s10 (zFr_u (zFr_t zFr_rf hF_s2 (by decide)) e_s10 (zr (k := 27) (t2 := 84) hG ha rfl) (by decide)) (by omega) (by omega) (by omega) (by omega))
  exact j_sub [1, 2, 3, 4, 5, 0] [(0, .ref a), (1, .int (zI x1)), (2, .int (zI x2)), (3, .int (zI x3)), (4, .int (zI x4)), (5, .int (zI 0))] rfl (c3_1 (2147483648 * 4) 0 s0 (by omega) (by omega) hS0 zFr_rf (by omega) (by omega) (by omega) (by omega))

theorem lk_RX12_361 : LkV RX12 361 RX12 yX12_take cX12_take 6 none 4 := ⟨km_RX12_361, ki_yX12_take, ks_RX12_yX12_take, kn_RX12, kc_yX12_take, rfl, by decide +kernel, by decide +kernel, by decide +kernel⟩
set_option maxHeartbeats 1200000 in
set_option maxRecDepth 20000 in
theorem c_X12_comes {E : zE} {l : Launch} (hst : l.stackTraces = false) (a : Nat) (x1 : Int) (x2 : Int) (x3 : Int) : Con E l yX12_comes cX12_comes 4 none { frames := 1, cells := 0, slots := 0, locals := 25 } (fun G s vs => vs = [.ref a, .int (zI x1), .int (zI x2), .int (zI x3)] ∧ zGK G ∧ zSK G s ∧ (gT G a = 13) ∧ (0 ≤ x1 ∧ x1 ≤ 2) ∧ (0 ≤ x2 ∧ x2 ≤ 360) ∧ (480 ≤ x3 ∧ x3 ≤ 486) ∧ (x3 ≠ x1 + 483) ∧ (zc (s (gP G a 27)) ≤ 60)) (fun G s _ => pV (fun G2 s2 => G2 = G ∧ zSK G s2 ∧ zFr [84] G s s2 ∧ zc (s2 (gP G a 27)) = zc (s (gP G a 27)) ∧ s2 (gP G a 27) (x1 + 483).toNat = 0 ∧ s2 (gP G a 27) (x3).toNat = s (gP G a 27) (x3).toNat + s (gP G a 27) (x1 + 483).toNat ∧ s2 (gP G a 27) 488 = s (gP G a 27) 488)) := by
  refine Con.mk hst (by decide) (fun G s vs h => by rw [h.1]; exact Nat.le_of_ble_eq_true rfl) ?_
  rintro X G s0 vs ⟨rfl, hG, hS0, ha, hx1, hx2, hx3, e0, e1⟩ rfl hx hq
  show JJ X E 4 G s0 0 0 [(0, .ref a), (1, .int (zI x1)), (2, .int (zI x2)), (3, .int (zI x3))] 0 []
  refine j_aload_n hx 0 dX12_comes_0 rfl ?_
  refine j_sipush hx dX12_comes_1 rfl ?_
  refine j_bipush hx dX12_comes_4 rfl ?_
  refine j_iload_n hx 1 dX12_comes_6 rfl ?_
  refine j_imul hx (r := 60 * x1) dX12_comes_7 rfl ?_
  refine j_iadd hx (r := 60 * x1 + 180) dX12_comes_8 (by omega) ?_
  refine j_sipush hx dX12_comes_9 rfl ?_
  refine j_iload_n hx 1 dX12_comes_12 rfl ?_
  refine j_iadd hx (r := x1 + 483) dX12_comes_13 (by omega) ?_
  refine j_iload_n hx 2 dX12_comes_14 rfl ?_
  refine j_iload_n hx 3 dX12_comes_15 rfl ?_
  refine j_callV hx hG (c_X12_take hst a (60 * x1 + 180) (x1 + 483) x2 x3) lk_RX12_361 ha (by decide) rfl rfl rfl rfl [.int (zI (60 * x1 + 180)), .int (zI (x1 + 483)), .int (zI x2), .int (zI x3)] ⟨rfl, hG, hS0, ha, (by omega), (by omega), (by omega), (by omega), (by omega), (by omega)⟩ rfl rfl ⟨by decide, by decide⟩ ⟨by decide, by decide⟩ (k2 := 0) (n2 := 0) rfl rfl (Nat.le_of_ble_eq_true rfl) dX12_comes_16 (kVM (fun s1 hS_s1 hF_s1 q2 => ?_))
  refine j_aload_n hx 0 dX12_comes_19 rfl ?_
  refine g13_27 hx hG ha kf_RX12_56 dX12_comes_20 ?_
  refine j_iload_n hx 3 dX12_comes_23 rfl ?_
  refine j_dup2 hx dX12_comes_24 rfl rfl ?_
  have f3 := zaQ (j := (x3).toNat) hS_s1 (zr (k := 27) (t2 := 84) hG ha rfl) (congrArg some (axS_2 (x3).toNat (by omega))) (zlen hG (zr (k := 27) (t2 := 84) hG ha rfl) (n := 515) rfl rfl) (show 0 ≤ x3 by omega) (by omega) rfl
  have c4 := zc_1 (j := (x3).toNat) hS_s1 (zr (k := 27) (t2 := 84) hG ha rfl) (zn hG (zr (k := 27) (t2 := 84) hG ha rfl) rfl) (by omega) (by omega)
  refine j_iald hx hG (zr (k := 27) (t2 := 84) hG ha rfl) (by decide) rfl (zlen hG (zr (k := 27) (t2 := 84) hG ha rfl) (n := 515) rfl rfl) (by omega) (by omega) (j := (x3).toNat) rfl rfl dX12_comes_25 ?_
  refine j_aload_n hx 0 dX12_comes_26 rfl ?_
  refine g13_27 hx hG ha kf_RX12_56 dX12_comes_27 ?_
  refine j_sipush hx dX12_comes_30 rfl ?_
  refine j_iload_n hx 1 dX12_comes_33 rfl ?_
  refine j_iadd hx (r := x1 + 483) dX12_comes_34 (by omega) ?_
  have f5 := zaQ (j := (x1 + 483).toNat) hS_s1 (zr (k := 27) (t2 := 84) hG ha rfl) (congrArg some (axS_2 (x1 + 483).toNat (by omega))) (zlen hG (zr (k := 27) (t2 := 84) hG ha rfl) (n := 515) rfl rfl) (show 0 ≤ x1 + 483 by omega) (by omega) rfl
  have c6 := zc_1 (j := (x1 + 483).toNat) hS_s1 (zr (k := 27) (t2 := 84) hG ha rfl) (zn hG (zr (k := 27) (t2 := 84) hG ha rfl) rfl) (by omega) (by omega)
  have c7 : (x3).toNat ≠ (x1 + 483).toNat → s1 (gP G a 27) (x3).toNat + s1 (gP G a 27) (x1 + 483).toNat ≤ zc (s1 (gP G a 27)) := fun e => zc_2 hS_s1 (zr (k := 27) (t2 := 84) hG ha rfl) (zn hG (zr (k := 27) (t2 := 84) hG ha rfl) rfl) (by omega) (by omega) (by omega) (by omega) e
  refine j_iald hx hG (zr (k := 27) (t2 := 84) hG ha rfl) (by decide) rfl (zlen hG (zr (k := 27) (t2 := 84) hG ha rfl) (n := 515) rfl rfl) (by omega) (by omega) (j := (x1 + 483).toNat) rfl rfl dX12_comes_35 ?_
  refine j_iadd hx (r := (s1 (gP G a 27) (x3).toNat) + (s1 (gP G a 27) (x1 + 483).toNat)) dX12_comes_36 (by omega) ?_
  refine j_iast hx hG (zr (k := 27) (t2 := 84) hG ha rfl) (by decide) rfl (zlen hG (zr (k := 27) (t2 := 84) hG ha rfl) (n := 515) rfl rfl) (by omega) (by omega) (j := (x3).toNat) rfl dX12_comes_37 ?_
  obtain ⟨s2, e_s2⟩ : ∃ z, z = zU s1 (gP G a 27) (x3).toNat ((s1 (gP G a 27) (x3).toNat) + (s1 (gP G a 27) (x1 + 483).toNat)) := ⟨_, rfl⟩
  rw [← e_s2]
  have hS_s2 : zSK G s2 := by rw [e_s2]; exact zSK_a hS_s1 (zr (k := 27) (t2 := 84) hG ha rfl) rfl rfl (congrArg some (axS_2 (x3).toNat (by omega))) (by omega)
  have g9 : s2 (gP G a 27) (x3).toNat = (s1 (gP G a 27) (x3).toNat) + (s1 (gP G a 27) (x1 + 483).toNat) := (by rw [e_s2, zU_eq])
  have z8 : zc (s2 (gP G a 27)) = zc (s1 (gP G a 27)) - s1 (gP G a 27) (x3).toNat + s2 (gP G a 27) (x3).toNat := by rw [e_s2, zU_eq]; exact zc_w (by omega) (by omega)
  refine j_aload_n hx 0 dX12_comes_38 rfl ?_
  refine g13_27 hx hG ha kf_RX12_56 dX12_comes_39 ?_
  refine j_sipush hx dX12_comes_42 rfl ?_
  refine j_iload_n hx 1 dX12_comes_45 rfl ?_
  refine j_iadd hx (r := x1 + 483) dX12_comes_46 (by omega) ?_
  refine j_iconst hx dX12_comes_47 ?_
  refine j_iast hx hG (zr (k := 27) (t2 := 84) hG ha rfl) (by decide) rfl (zlen hG (zr (k := 27) (t2 := 84) hG ha rfl) (n := 515) rfl rfl) (by omega) (by omega) (j := (x1 + 483).toNat) rfl dX12_comes_48 ?_
  obtain ⟨s3, e_s3⟩ : ∃ z, z = zU s2 (gP G a 27) (x1 + 483).toNat 0 := ⟨_, rfl⟩
  rw [← e_s3]
  have hS_s3 : zSK G s3 := by rw [e_s3]; exact zSK_a hS_s2 (zr (k := 27) (t2 := 84) hG ha rfl) rfl rfl (congrArg some (axS_2 (x1 + 483).toNat (by omega))) (by omega)
  have g11 : s2 (gP G a 27) (x1 + 483).toNat = s1 (gP G a 27) (x1 + 483).toNat := (by rw [e_s2, zU_at (Or.inr (by omega))])
  have g12 : s3 (gP G a 27) (x1 + 483).toNat = 0 := (by rw [e_s3, zU_eq])
  have z10 : zc (s3 (gP G a 27)) = zc (s2 (gP G a 27)) - s2 (gP G a 27) (x1 + 483).toNat + s3 (gP G a 27) (x1 + 483).toNat := by rw [e_s3, zU_eq]; exact zc_w (by omega) (by omega)
  have g13 : s3 (gP G a 27) (x3).toNat = (s1 (gP G a 27) (x3).toNat) + (s1 (gP G a 27) (x1 + 483).toNat) := (by rw [e_s3, zU_at (Or.inr (by omega)), e_s2, zU_eq])
  have g14 : s3 (gP G a 27) 488 = s1 (gP G a 27) 488 := (by rw [e_s3, zU_at (Or.inr (by omega)), e_s2, zU_at (Or.inr (by omega))])
  exact j_vret hx hq rfl (by decide) (by decide) dX12_comes_49 ⟨rfl, rfl, hS_s3, (zFr_u (zFr_u (zFr_t zFr_rf hF_s1 (by decide)) e_s2 (zr (k := 27) (t2 := 84) hG ha rfl) (by decide)) e_s3 (zr (k := 27) (t2 := 84) hG ha rfl) (by decide)), ⟨by omega, by omega, by omega, by omega⟩⟩

theorem lk_RX12_365 : LkV RX12 365 RX12 yX12_comes cX12_comes 4 none 3 := ⟨km_RX12_365, ki_yX12_comes, ks_RX12_yX12_comes, kn_RX12, kc_yX12_comes, rfl, by decide +kernel, by decide +kernel, by decide +kernel⟩
set_option maxHeartbeats 1200000 in
set_option maxRecDepth 20000 in
theorem c_X12_comesToRow {E : zE} {l : Launch} (hst : l.stackTraces = false) (a : Nat) (x1 : Int) (x2 : Int) : Con E l yX12_comesToRow cX12_comesToRow 3 none { frames := 2, cells := 0, slots := 0, locals := 48 } (fun G s vs => vs = [.ref a, .int (zI x1), .int (zI x2)] ∧ zGK G ∧ zSK G s ∧ (gT G a = 13) ∧ (0 ≤ x1 ∧ x1 ≤ 2) ∧ (0 ≤ x2 ∧ x2 ≤ 2) ∧ (zc (s (gP G a 27)) ≤ 60)) (fun G s _ => pV (fun G2 s2 => G2 = G ∧ zSK G s2 ∧ zFr [84] G s s2 ∧ zc (s2 (gP G a 27)) = zc (s (gP G a 27)) ∧ s2 (gP G a 27) (x1 + 483).toNat = 0 ∧ s2 (gP G a 27) (x2 + 480).toNat = s (gP G a 27) (x2 + 480).toNat + s (gP G a 27) (x1 + 483).toNat ∧ s2 (gP G a 27) 488 = s (gP G a 27) 488)) := by
  refine Con.mk hst (by decide) (fun G s vs h => by rw [h.1]; exact Nat.le_of_ble_eq_true rfl) ?_
  rintro X G s0 vs ⟨rfl, hG, hS0, ha, hx1, hx2, e0⟩ rfl hx hq
  show JJ X E 3 G s0 0 0 [(0, .ref a), (1, .int (zI x1)), (2, .int (zI x2))] 0 []
  refine j_aload_n hx 0 dX12_comesToRow_0 rfl ?_
  refine j_iload_n hx 1 dX12_comesToRow_1 rfl ?_
  refine j_iconst hx dX12_comesToRow_2 ?_
  refine j_bipush hx dX12_comesToRow_3 rfl ?_
  refine j_iload_n hx 2 dX12_comesToRow_5 rfl ?_
  refine j_imul hx (r := 60 * x2) dX12_comesToRow_6 rfl ?_
  refine j_iadd hx (r := 60 * x2) dX12_comesToRow_7 (by omega) ?_
  refine j_sipush hx dX12_comesToRow_8 rfl ?_
  refine j_iload_n hx 2 dX12_comesToRow_11 rfl ?_
  refine j_iadd hx (r := x2 + 480) dX12_comesToRow_12 (by omega) ?_
  refine j_callV hx hG (c_X12_comes hst a x1 (60 * x2) (x2 + 480)) lk_RX12_365 ha (by decide) rfl rfl rfl rfl [.int (zI x1), .int (zI (60 * x2)), .int (zI (x2 + 480))] ⟨rfl, hG, hS0, ha, (by omega), (by omega), (by omega), (by omega), (by omega)⟩ rfl rfl ⟨by decide, by decide⟩ ⟨by decide, by decide⟩ (k2 := 0) (n2 := 0) rfl rfl (Nat.le_of_ble_eq_true rfl) dX12_comesToRow_13 (kVM (fun s1 hS_s1 hF_s1 q2 => ?_))
  exact j_vret hx hq rfl (by decide) (by decide) dX12_comesToRow_16 ⟨rfl, rfl, hS_s1, (zFr_t zFr_rf hF_s1 (by decide)), ⟨by omega, by omega, by omega, by omega⟩⟩

theorem lk_RX12_368 : LkV RX12 368 RX12 yX12_comesToRow cX12_comesToRow 3 none 2 := ⟨km_RX12_368, ki_yX12_comesToRow, ks_RX12_yX12_comesToRow, kn_RX12, kc_yX12_comesToRow, rfl, by decide +kernel, by decide +kernel, by decide +kernel⟩
set_option maxHeartbeats 1200000 in
set_option maxRecDepth 20000 in
theorem c_X12_turnsOver {E : zE} {l : Launch} (hst : l.stackTraces = false) (a : Nat) (x1 : Int) : Con E l yX12_turnsOver cX12_turnsOver 2 none { frames := 3, cells := 0, slots := 0, locals := 70 } (fun G s vs => vs = [.ref a, .int (zI x1)] ∧ zGK G ∧ zSK G s ∧ (gT G a = 13) ∧ (0 ≤ x1 ∧ x1 ≤ 2) ∧ (zc (s (gP G a 27)) ≤ 60)) (fun G s _ => pV (fun G2 s2 => G2 = G ∧ zSK G s2 ∧ zFr [84] G s s2 ∧ zc (s2 (gP G a 27)) = zc (s (gP G a 27)) ∧ (1 ≤ s (gP G a 27) (x1 + 480).toNat + s (gP G a 27) (x1 + 483).toNat → 1 ≤ s2 (gP G a 27) (x1 + 480).toNat) ∧ s2 (gP G a 27) 488 = s (gP G a 27) 488)) := by
  refine Con.mk hst (by decide) (fun G s vs h => by rw [h.1]; exact Nat.le_of_ble_eq_true rfl) ?_
  rintro X G s0 vs ⟨rfl, hG, hS0, ha, hx1, e0⟩ rfl hx hq
  show JJ X E 2 G s0 0 0 [(0, .ref a), (1, .int (zI x1))] 0 []
  refine j_aload_n hx 0 dX12_turnsOver_0 rfl ?_
  refine g13_27 hx hG ha kf_RX12_56 dX12_turnsOver_1 ?_
  refine j_sipush hx dX12_turnsOver_4 rfl ?_
  refine j_iload_n hx 1 dX12_turnsOver_7 rfl ?_
  refine j_iadd hx (r := x1 + 480) dX12_turnsOver_8 (by omega) ?_
  have f1 := zaQ (j := (x1 + 480).toNat) hS0 (zr (k := 27) (t2 := 84) hG ha rfl) (congrArg some (axS_2 (x1 + 480).toNat (by omega))) (zlen hG (zr (k := 27) (t2 := 84) hG ha rfl) (n := 515) rfl rfl) (show 0 ≤ x1 + 480 by omega) (by omega) rfl
  have c2 := zc_1 (j := (x1 + 480).toNat) hS0 (zr (k := 27) (t2 := 84) hG ha rfl) (zn hG (zr (k := 27) (t2 := 84) hG ha rfl) rfl) (by omega) (by omega)
  refine j_iald hx hG (zr (k := 27) (t2 := 84) hG ha rfl) (by decide) rfl (zlen hG (zr (k := 27) (t2 := 84) hG ha rfl) (n := 515) rfl rfl) (by omega) (by omega) (j := (x1 + 480).toNat) rfl rfl dX12_turnsOver_9 ?_
  refine j_if_ne hx 19 dX12_turnsOver_10 rfl (by omega) (fun h3 => ?_) (fun h3 => ?_)
  · skip
    exact j_vret hx hq rfl (by decide) (by decide) dX12_turnsOver_19 ⟨rfl, rfl, hS0, zFr_rf, ⟨by omega, by omega, by omega⟩⟩
  · skip
    refine j_aload_n hx 0 dX12_turnsOver_13 rfl ?_
    refine j_iload_n hx 1 dX12_turnsOver_14 rfl ?_
    refine j_iload_n hx 1 dX12_turnsOver_15 rfl ?_
    refine j_callV hx hG (c_X12_comesToRow hst a x1 x1) lk_RX12_368 ha (by decide) rfl rfl rfl rfl [.int (zI x1), .int (zI x1)] ⟨rfl, hG, hS0, ha, (by omega), (by omega), (by omega)⟩ rfl rfl ⟨by decide, by decide⟩ ⟨by decide, by decide⟩ (k2 := 0) (n2 := 0) rfl rfl (Nat.le_of_ble_eq_true rfl) dX12_turnsOver_16 (kVM (fun s1 hS_s1 hF_s1 q5 => ?_))
    exact j_vret hx hq rfl (by decide) (by decide) dX12_turnsOver_19 ⟨rfl, rfl, hS_s1, (zFr_t zFr_rf hF_s1 (by decide)), ⟨by omega, by omega, by omega⟩⟩

set_option maxHeartbeats 1200000 in
set_option maxRecDepth 20000 in
theorem c_X12_guesses {E : zE} {l : Launch} (hst : l.stackTraces = false) (a : Nat) (x1 : Int) : Con E l yX12_guesses cX12_guesses 3 none { frames := 4, cells := 0, slots := 0, locals := 96 } (fun G s vs => vs = [.ref a, .int (zI x1)] ∧ zGK G ∧ zSK G s ∧ (gT G a = 13) ∧ (0 ≤ x1 ∧ x1 ≤ 2) ∧ (zRva (s (gP G a 34)) (s (gP G a 35)) (s (gP G a 37)))) (fun G s _ => pV (fun G2 s2 => G2 = G ∧ zSK G s2 ∧ zFr [95, 98] G s s2 ∧ True)) := by
  refine Con.mk hst (by decide) (fun G s vs h => by rw [h.1]; exact Nat.le_of_ble_eq_true rfl) ?_
  rintro X G s0 vs ⟨rfl, hG, hS0, ha, hx1, e0⟩ rfl hx hq
  show JJ X E 3 G s0 0 0 [(0, .ref a), (1, .int (zI x1))] 0 []
  refine j_iconst hx dX12_guesses_0 ?_
  refine j_istore_n hx [(2, .int (zI 0)), (0, .ref a), (1, .int (zI x1))] dX12_guesses_1 (by decide) rfl ?_
  have c2_1 : ∀ (m_c2_1 : Nat) (v1 : Int) (s2 : zS), 2147483648 - v1 < m_c2_1 → (0 ≤ v1 ∧ v1 ≤ 3) → (zSK G s2) → (zFr [95, 98] G s0 s2) → JJ X E 3 G s2 0 0 [(0, .ref a), (1, .int (zI x1)), (2, .int (zI v1))] 2 [] := by
    intro m_c2_1
    induction m_c2_1 with
    | zero => intro v1 s2 hm_c2_1 fA3 hS_s2 hF_s2; exfalso; omega
    | succ m_c2_1 ih_c2_1 => 
      intro v1 s2 hm_c2_1 fA3 hS_s2 hF_s2
      refine j_iload_n hx 2 dX12_guesses_2 rfl ?_
      refine j_aload_n hx 0 dX12_guesses_3 rfl ?_
      have f2 := zf hS0 ha (k := 24) rfl
      refine g13_24 hx hG ha kf_RX12_189 (v := (s0 a 24)) (by rw [(zFr_g hF_s2 ha (by decide))]) dX12_guesses_4 ?_
      refine j_icmp_ge hx 48 dX12_guesses_7 rfl (by omega) (by omega) (fun h3 => ?_) (fun h3 => ?_)
      · skip
        exact j_vret hx hq rfl (by decide) (by decide) dX12_guesses_48 ⟨rfl, rfl, hS_s2, (zFr_t zFr_rf hF_s2 (by decide)), trivial⟩
      · skip
        refine j_aload_n hx 0 dX12_guesses_10 rfl ?_
        refine g13_45 hx hG ha kf_RX12_99 dX12_guesses_11 ?_
        refine j_iload_n hx 2 dX12_guesses_14 rfl ?_
        refine j_aload_n hx 0 dX12_guesses_15 rfl ?_
        refine j_iload_n hx 2 dX12_guesses_16 rfl ?_
        refine j_callV hx hG (c_X12_isOut hst a v1) lk_RX12_325 ha (by decide) rfl rfl rfl rfl [.int (zI v1)] ⟨rfl, hG, hS_s2, ha, (by omega)⟩ rfl rfl ⟨by decide, by decide⟩ ⟨by decide, by decide⟩ (k2 := 0) (n2 := 0) rfl rfl (Nat.le_of_ble_eq_true rfl) dX12_guesses_17 (kIP (fun v4 q5 => ?_))
        have c41_6 : ∀ (v6 : Int) (s7 : zS), ((-2) ≤ v6 ∧ v6 ≤ (-1)) → (zSK G s7) → (zFr [95] G s2 s7) → JJ X E 3 G s7 0 0 [(0, .ref a), (1, .int (zI x1)), (2, .int (zI v1))] 41 [.int (zI v6), .int (zI v1), .ref (gP G a 45)] := by
          intro v6 s7 fA8 hS_s7 hF_s7
          refine j_iast hx hG (zr (k := 45) (t2 := 98) hG ha rfl) (by decide) rfl (zlen hG (zr (k := 45) (t2 := 98) hG ha rfl) (n := 3) rfl rfl) (by omega) (by omega) (j := (v1).toNat) rfl dX12_guesses_41 ?_
          obtain ⟨s11, e_s11⟩ : ∃ z, z = zU s7 (gP G a 45) (v1).toNat v6 := ⟨_, rfl⟩
          rw [← e_s11]
          have hS_s11 : zSK G s11 := by rw [e_s11]; exact zSK_A hS_s7 (zr (k := 45) (t2 := 98) hG ha rfl) rfl rfl rfl (by omega)
          refine j_iinc hx 2 [(2, .int (zI (v1 + 1))), (0, .ref a), (1, .int (zI x1))] dX12_guesses_42 rfl (by omega) (by decide) rfl ?_
          refine j_goto hx 2 dX12_guesses_45 rfl ?_
          exact j_sub [1, 2, 0] [(0, .ref a), (1, .int (zI x1)), (2, .int (zI (v1 + 1)))] rfl (ih_c2_1 (v1 + 1) s11 (by omega) (by omega) hS_s11 (zFr_u (zFr_t (zFr_t zFr_rf hF_s2 (by decide)) hF_s7 (by decide)) e_s11 (zr (k := 45) (t2 := 98) hG ha rfl) (by decide)))
        have c39_12 : ∀ (s13 : zS), (zSK G s13) → (zFr [95] G s2 s13) → JJ X E 3 G s13 0 0 [(0, .ref a), (1, .int (zI x1)), (2, .int (zI v1))] 39 [.int (zI v1), .ref (gP G a 45)] := by
          intro s13 hS_s13 hF_s13
          refine j_bipush hx dX12_guesses_39 rfl ?_
          exact j_sub [0, 1, 2] [(0, .ref a), (1, .int (zI x1)), (2, .int (zI v1))] rfl (c41_6 (-2) s13 (by omega) hS_s13 (zFr_t zFr_rf hF_s13 (by decide)))
        refine j_if_ne hx 39 dX12_guesses_20 rfl (by omega) (fun h7 => ?_) (fun h7 => ?_)
        · skip
          exact j_sub [0, 1, 2] [(0, .ref a), (1, .int (zI x1)), (2, .int (zI v1))] rfl (c39_12 s2 hS_s2 zFr_rf)
        · skip
          refine j_aload_n hx 0 dX12_guesses_23 rfl ?_
          refine j_iconst hx dX12_guesses_24 ?_
          refine j_iload_n hx 2 dX12_guesses_25 rfl ?_
          refine j_iadd hx (r := v1 + 3) dX12_guesses_26 (by omega) ?_
          refine j_iload_n hx 2 dX12_guesses_27 rfl ?_
          refine j_iload_n hx 1 dX12_guesses_28 rfl ?_
          refine j_callV hx hG (c_X12_holds hst a (v1 + 3) v1 x1) lk_RX12_358 ha (by decide) rfl rfl rfl rfl [.int (zI (v1 + 3)), .int (zI v1), .int (zI x1)] ⟨rfl, hG, hS_s2, ha, (by omega), (by omega), (by omega), ((by have q1 : s2 (gP G a 34) = s0 (gP G a 34) := (by rw [hF_s2 (gP G a 34) (by rw [(zr (k := 34) (t2 := 91) hG ha rfl)]; decide)]); have q2 : s2 (gP G a 35) = s0 (gP G a 35) := (by rw [hF_s2 (gP G a 35) (by rw [(zr (k := 35) (t2 := 92) hG ha rfl)]; decide)]); have q3 : s2 (gP G a 37) = s0 (gP G a 37) := (by rw [hF_s2 (gP G a 37) (by rw [(zr (k := 37) (t2 := 94) hG ha rfl)]; decide)]); rw [q1, q2, q3]; exact e0))⟩ rfl rfl ⟨by decide, by decide⟩ ⟨by decide, by decide⟩ (k2 := 0) (n2 := 0) rfl rfl (Nat.le_of_ble_eq_true rfl) dX12_guesses_29 (kIM (fun v8 s16 hS_s16 hF_s16 q9 => ?_))
          refine j_if_eq hx 39 dX12_guesses_32 rfl (by omega) (fun h10 => ?_) (fun h10 => ?_)
          · skip
            exact j_sub [0, 1, 2] [(0, .ref a), (1, .int (zI x1)), (2, .int (zI v1))] rfl (c39_12 s16 hS_s16 (zFr_t zFr_rf hF_s16 (by decide)))
          · skip
            refine j_iconst hx dX12_guesses_35 ?_
            refine j_goto hx 41 dX12_guesses_36 rfl ?_
            exact j_sub [0, 1, 2] [(0, .ref a), (1, .int (zI x1)), (2, .int (zI v1))] rfl (c41_6 (-1) s16 (by omega) hS_s16 (zFr_t zFr_rf hF_s16 (by decide)))
  exact j_sub [1, 2, 0] [(0, .ref a), (1, .int (zI x1)), (2, .int (zI 0))] rfl (c2_1 (2147483648 * 4) 0 s0 (by omega) (by omega) hS0 zFr_rf)

set_option maxHeartbeats 1200000 in
set_option maxRecDepth 20000 in
theorem c_X12_takesFirst {E : zE} {l : Launch} (hst : l.stackTraces = false) (a : Nat) (x1 : Int) : Con E l yX12_takesFirst cX12_takesFirst 4 (some .int) { frames := 0, cells := 0, slots := 0, locals := 0 } (fun G s vs => vs = [.ref a, .int (zI x1)] ∧ zGK G ∧ zSK G s ∧ (gT G a = 13) ∧ (0 ≤ x1 ∧ x1 ≤ 2) ∧ (1 ≤ s (gP G a 27) (x1 + 480).toNat) ∧ (zc (s (gP G a 27)) ≤ 60)) (fun G s _ => pI (fun r G2 s2 => G2 = G ∧ zSK G s2 ∧ zFr [84] G s s2 ∧ (0 ≤ r ∧ r ≤ 59) ∧ zc (s2 (gP G a 27)) = zc (s (gP G a 27)) - 1 ∧ s2 (gP G a 27) (x1 + 480).toNat = s (gP G a 27) (x1 + 480).toNat - 1 ∧ s2 (gP G a 27) (x1 + 483).toNat = s (gP G a 27) (x1 + 483).toNat ∧ s2 (gP G a 27) 488 = s (gP G a 27) 488)) := by
  refine Con.mk hst (by decide) (fun G s vs h => by rw [h.1]; exact Nat.le_of_ble_eq_true rfl) ?_
  rintro X G s0 vs ⟨rfl, hG, hS0, ha, hx1, e0, e1⟩ rfl hx hq
  show JJ X E 4 G s0 0 0 [(0, .ref a), (1, .int (zI x1))] 0 []
  refine j_aload_n hx 0 dX12_takesFirst_0 rfl ?_
  refine g13_27 hx hG ha kf_RX12_56 dX12_takesFirst_1 ?_
  refine j_iconst hx dX12_takesFirst_4 ?_
  refine j_bipush hx dX12_takesFirst_5 rfl ?_
  refine j_iload_n hx 1 dX12_takesFirst_7 rfl ?_
  refine j_imul hx (r := 60 * x1) dX12_takesFirst_8 rfl ?_
  refine j_iadd hx (r := 60 * x1) dX12_takesFirst_9 (by omega) ?_
  have f1 := zaQ (j := (60 * x1).toNat) hS0 (zr (k := 27) (t2 := 84) hG ha rfl) (congrArg some (axS_0 (60 * x1).toNat (by omega))) (zlen hG (zr (k := 27) (t2 := 84) hG ha rfl) (n := 515) rfl rfl) (show 0 ≤ 60 * x1 by omega) (by omega) rfl
  refine j_iald hx hG (zr (k := 27) (t2 := 84) hG ha rfl) (by decide) rfl (zlen hG (zr (k := 27) (t2 := 84) hG ha rfl) (n := 515) rfl rfl) (by omega) (by omega) (j := (60 * x1).toNat) rfl rfl dX12_takesFirst_10 ?_
  refine j_istore_n hx [(2, .int (zI ((s0 (gP G a 27) (60 * x1).toNat)))), (0, .ref a), (1, .int (zI x1))] dX12_takesFirst_11 (by decide) rfl ?_
  refine j_aload_n hx 1 dX12_takesFirst_12 rfl ?_
  refine g13_27 hx hG ha kf_RX12_56 dX12_takesFirst_13 ?_
  refine j_sipush hx dX12_takesFirst_16 rfl ?_
  refine j_iload_n hx 2 dX12_takesFirst_19 rfl ?_
  refine j_iadd hx (r := x1 + 480) dX12_takesFirst_20 (by omega) ?_
  refine j_dup2 hx dX12_takesFirst_21 rfl rfl ?_
  have f2 := zaQ (j := (x1 + 480).toNat) hS0 (zr (k := 27) (t2 := 84) hG ha rfl) (congrArg some (axS_2 (x1 + 480).toNat (by omega))) (zlen hG (zr (k := 27) (t2 := 84) hG ha rfl) (n := 515) rfl rfl) (show 0 ≤ x1 + 480 by omega) (by omega) rfl
  have c3 := zc_1 (j := (x1 + 480).toNat) hS0 (zr (k := 27) (t2 := 84) hG ha rfl) (zn hG (zr (k := 27) (t2 := 84) hG ha rfl) rfl) (by omega) (by omega)
  refine j_iald hx hG (zr (k := 27) (t2 := 84) hG ha rfl) (by decide) rfl (zlen hG (zr (k := 27) (t2 := 84) hG ha rfl) (n := 515) rfl rfl) (by omega) (by omega) (j := (x1 + 480).toNat) rfl rfl dX12_takesFirst_22 ?_
  refine j_iconst hx dX12_takesFirst_23 ?_
  refine j_isub hx (r := (s0 (gP G a 27) (x1 + 480).toNat) - 1) dX12_takesFirst_24 (by omega) ?_
  refine j_iast hx hG (zr (k := 27) (t2 := 84) hG ha rfl) (by decide) rfl (zlen hG (zr (k := 27) (t2 := 84) hG ha rfl) (n := 515) rfl rfl) (by omega) (by omega) (j := (x1 + 480).toNat) rfl dX12_takesFirst_25 ?_
  obtain ⟨s1, e_s1⟩ : ∃ z, z = zU s0 (gP G a 27) (x1 + 480).toNat ((s0 (gP G a 27) (x1 + 480).toNat) - 1) := ⟨_, rfl⟩
  rw [← e_s1]
  have hS_s1 : zSK G s1 := by rw [e_s1]; exact zSK_a hS0 (zr (k := 27) (t2 := 84) hG ha rfl) rfl rfl (congrArg some (axS_2 (x1 + 480).toNat (by omega))) (by omega)
  have g5 : s1 (gP G a 27) (x1 + 480).toNat = (s0 (gP G a 27) (x1 + 480).toNat) - 1 := (by rw [e_s1, zU_eq])
  have z4 : zc (s1 (gP G a 27)) = zc (s0 (gP G a 27)) - s0 (gP G a 27) (x1 + 480).toNat + s1 (gP G a 27) (x1 + 480).toNat := by rw [e_s1, zU_eq]; exact zc_w (by omega) (by omega)
  refine j_iconst hx dX12_takesFirst_26 ?_
  refine j_istore_n hx [(3, .int (zI 0)), (2, .int (zI ((s0 (gP G a 27) (60 * x1).toNat)))), (0, .ref a), (1, .int (zI x1))] dX12_takesFirst_27 (by decide) rfl ?_
  have g7 : s1 (gP G a 27) (x1 + 483).toNat = s0 (gP G a 27) (x1 + 483).toNat := (by rw [e_s1, zU_at (Or.inr (by omega))])
  have g8 : s1 (gP G a 27) 488 = s0 (gP G a 27) 488 := (by rw [e_s1, zU_at (Or.inr (by omega))])
  have c28_2 : ∀ (m_c28_2 : Nat) (v6 : Int) (s3 : zS), 2147483648 - v6 < m_c28_2 → (0 ≤ v6 ∧ v6 ≤ 60) → (zSK G s3) → (zFr [84] G s1 s3) → (zc (s3 (gP G a 27)) = zc (s1 (gP G a 27))) → (s3 (gP G a 27) (x1 + 480).toNat = s1 (gP G a 27) (x1 + 480).toNat) → (s3 (gP G a 27) (x1 + 483).toNat = s1 (gP G a 27) (x1 + 483).toNat) → (s3 (gP G a 27) 488 = s1 (gP G a 27) 488) → JJ X E 4 G s3 0 0 [(0, .ref a), (1, .int (zI x1)), (2, .int (zI ((s0 (gP G a 27) (60 * x1).toNat)))), (3, .int (zI v6))] 28 [] := by
    intro m_c28_2
    induction m_c28_2 with
    | zero => intro v6 s3 hm_c28_2 fA4 hS_s3 hF_s3 fA7 fA8 fA9 fA10; exfalso; omega
    | succ m_c28_2 ih_c28_2 => 
      intro v6 s3 hm_c28_2 fA4 hS_s3 hF_s3 fA7 fA8 fA9 fA10
      refine j_iload_n hx 3 dX12_takesFirst_28 rfl ?_
      refine j_aload_n hx 0 dX12_takesFirst_29 rfl ?_
      refine g13_27 hx hG ha kf_RX12_56 dX12_takesFirst_30 ?_
      refine j_sipush hx dX12_takesFirst_33 rfl ?_
      refine j_iload_n hx 1 dX12_takesFirst_36 rfl ?_
      refine j_iadd hx (r := x1 + 480) dX12_takesFirst_37 (by omega) ?_
      have f9 := zaQ (j := (x1 + 480).toNat) hS_s3 (zr (k := 27) (t2 := 84) hG ha rfl) (congrArg some (axS_2 (x1 + 480).toNat (by omega))) (zlen hG (zr (k := 27) (t2 := 84) hG ha rfl) (n := 515) rfl rfl) (show 0 ≤ x1 + 480 by omega) (by omega) rfl
      have c10 := zc_1 (j := (x1 + 480).toNat) hS_s3 (zr (k := 27) (t2 := 84) hG ha rfl) (zn hG (zr (k := 27) (t2 := 84) hG ha rfl) rfl) (by omega) (by omega)
      refine j_iald hx hG (zr (k := 27) (t2 := 84) hG ha rfl) (by decide) rfl (zlen hG (zr (k := 27) (t2 := 84) hG ha rfl) (n := 515) rfl rfl) (by omega) (by omega) (j := (x1 + 480).toNat) rfl rfl dX12_takesFirst_38 ?_
      refine j_icmp_ge hx 76 dX12_takesFirst_39 rfl (by omega) (by omega) (fun h11 => ?_) (fun h11 => ?_)
      · skip
        refine j_iload_n hx 2 dX12_takesFirst_76 rfl ?_
        exact j_iret hx hq rfl (by decide) (by decide) dX12_takesFirst_77 ⟨(s0 (gP G a 27) (60 * x1).toNat), rfl, rfl, hS_s3, (zFr_t (zFr_u zFr_rf e_s1 (zr (k := 27) (t2 := 84) hG ha rfl) (by decide)) hF_s3 (by decide)), ⟨(by omega), by omega, by omega, by omega, by omega⟩⟩
      · skip
        refine j_aload_n hx 0 dX12_takesFirst_42 rfl ?_
        refine g13_27 hx hG ha kf_RX12_56 dX12_takesFirst_43 ?_
        refine j_iconst hx dX12_takesFirst_46 ?_
        refine j_bipush hx dX12_takesFirst_47 rfl ?_
        refine j_iload_n hx 1 dX12_takesFirst_49 rfl ?_
        refine j_imul hx (r := 60 * x1) dX12_takesFirst_50 rfl ?_
        refine j_iadd hx (r := 60 * x1) dX12_takesFirst_51 (by omega) ?_
        refine j_iload_n hx 3 dX12_takesFirst_52 rfl ?_
        refine j_iadd hx (r := 60 * x1 + v6) dX12_takesFirst_53 (by omega) ?_
        refine j_aload_n hx 0 dX12_takesFirst_54 rfl ?_
        refine g13_27 hx hG ha kf_RX12_56 dX12_takesFirst_55 ?_
        refine j_iconst hx dX12_takesFirst_58 ?_
        refine j_bipush hx dX12_takesFirst_59 rfl ?_
        refine j_iload_n hx 1 dX12_takesFirst_61 rfl ?_
        refine j_imul hx (r := 60 * x1) dX12_takesFirst_62 rfl ?_
        refine j_iadd hx (r := 60 * x1) dX12_takesFirst_63 (by omega) ?_
        refine j_iload_n hx 3 dX12_takesFirst_64 rfl ?_
        refine j_iadd hx (r := 60 * x1 + v6) dX12_takesFirst_65 (by omega) ?_
        refine j_iconst hx dX12_takesFirst_66 ?_
        refine j_iadd hx (r := 60 * x1 + v6 + 1) dX12_takesFirst_67 (by omega) ?_
        have f12 := zaQ (j := (60 * x1 + v6 + 1).toNat) hS_s3 (zr (k := 27) (t2 := 84) hG ha rfl) (congrArg some (axS_0 (60 * x1 + v6 + 1).toNat (by omega))) (zlen hG (zr (k := 27) (t2 := 84) hG ha rfl) (n := 515) rfl rfl) (show 0 ≤ 60 * x1 + v6 + 1 by omega) (by omega) rfl
        refine j_iald hx hG (zr (k := 27) (t2 := 84) hG ha rfl) (by decide) rfl (zlen hG (zr (k := 27) (t2 := 84) hG ha rfl) (n := 515) rfl rfl) (by omega) (by omega) (j := (60 * x1 + v6 + 1).toNat) rfl rfl dX12_takesFirst_68 ?_
        refine j_iast hx hG (zr (k := 27) (t2 := 84) hG ha rfl) (by decide) rfl (zlen hG (zr (k := 27) (t2 := 84) hG ha rfl) (n := 515) rfl rfl) (by omega) (by omega) (j := (60 * x1 + v6).toNat) rfl dX12_takesFirst_69 ?_
        obtain ⟨s11, e_s11⟩ : ∃ z, z = zU s3 (gP G a 27) (60 * x1 + v6).toNat ((s3 (gP G a 27) (60 * x1 + v6 + 1).toNat)) := ⟨_, rfl⟩
        rw [← e_s11]
        have hS_s11 : zSK G s11 := by rw [e_s11]; exact zSK_a hS_s3 (zr (k := 27) (t2 := 84) hG ha rfl) rfl rfl (congrArg some (axS_0 (60 * x1 + v6).toNat (by omega))) (by omega)
        have z13 : zc (s11 (gP G a 27)) = zc (s3 (gP G a 27)) := by rw [e_s11]; exact zc_o (by omega)
        refine j_iinc hx 3 [(3, .int (zI (v6 + 1))), (0, .ref a), (1, .int (zI x1)), (2, .int (zI ((s0 (gP G a 27) (60 * x1).toNat))))] dX12_takesFirst_70 rfl (by omega) (by decide) rfl ?_
        refine j_goto hx 28 dX12_takesFirst_73 rfl ?_
        have g14 : s11 (gP G a 27) (x1 + 480).toNat = s3 (gP G a 27) (x1 + 480).toNat := (by rw [e_s11, zU_at (Or.inr (by omega))])
        have g15 : s11 (gP G a 27) (x1 + 483).toNat = s3 (gP G a 27) (x1 + 483).toNat := (by rw [e_s11, zU_at (Or.inr (by omega))])
        have g16 : s11 (gP G a 27) 488 = s3 (gP G a 27) 488 := (by rw [e_s11, zU_at (Or.inr (by omega))])
        exact j_sub [1, 2, 3, 0] [(0, .ref a), (1, .int (zI x1)), (2, .int (zI ((s0 (gP G a 27) (60 * x1).toNat)))), (3, .int (zI (v6 + 1)))] rfl (ih_c28_2 (v6 + 1) s11 (by omega) (by omega) hS_s11 (zFr_u (zFr_t zFr_rf hF_s3 (by decide)) e_s11 (zr (k := 27) (t2 := 84) hG ha rfl) (by decide)) (by omega) (by omega) (by omega) (by omega))
  exact j_sub [2, 3, 1, 0] [(0, .ref a), (1, .int (zI x1)), (2, .int (zI ((s0 (gP G a 27) (60 * x1).toNat)))), (3, .int (zI 0))] rfl (c28_2 (2147483648 * 4) 0 s1 (by omega) (by omega) hS_s1 zFr_rf (by omega) (by omega) (by omega) (by omega))

theorem lk_RX12_371 : LkV RX12 371 RX12 yX12_takesFirst cX12_takesFirst 4 (some .int) 1 := ⟨km_RX12_371, ki_yX12_takesFirst, ks_RX12_yX12_takesFirst, kn_RX12, kc_yX12_takesFirst, rfl, by decide +kernel, by decide +kernel, by decide +kernel⟩
set_option maxHeartbeats 1200000 in
set_option maxRecDepth 20000 in
theorem c_X12_lays {E : zE} {l : Launch} (hst : l.stackTraces = false) (a : Nat) (x1 : Int) : Con E l yX12_lays cX12_lays 2 none { frames := 1, cells := 0, slots := 0, locals := 23 } (fun G s vs => vs = [.ref a, .int (zI x1)] ∧ zGK G ∧ zSK G s ∧ (gT G a = 13) ∧ (0 ≤ x1 ∧ x1 ≤ 2) ∧ (1 ≤ s (gP G a 27) (x1 + 480).toNat) ∧ (zc (s (gP G a 27)) ≤ 60)) (fun G s _ => pV (fun G2 s2 => G2 = G ∧ zSK G s2 ∧ zFr [13, 84] G s s2 ∧ zc (s2 (gP G a 27)) = zc (s (gP G a 27)) ∧ s2 (gP G a 27) 488 = s (gP G a 27) 488 ∧ s2 a 0 = s a 0 ∧ s2 a 3 = s a 3 ∧ s2 a 4 = s a 4 ∧ s2 a 5 = s a 5 ∧ s2 a 7 = s a 7 ∧ s2 a 21 = s a 21 ∧ s2 a 22 = s a 22 ∧ s2 a 23 = s a 23 ∧ s2 a 24 = s a 24 ∧ s2 a 38 = s a 38 ∧ s2 a 51 = s a 51 ∧ s2 a 52 = s a 52)) := by
  refine Con.mk hst (by decide) (fun G s vs h => by rw [h.1]; exact Nat.le_of_ble_eq_true rfl) ?_
  rintro X G s0 vs ⟨rfl, hG, hS0, ha, hx1, e0, e1⟩ rfl hx hq
  show JJ X E 2 G s0 0 0 [(0, .ref a), (1, .int (zI x1))] 0 []
  refine j_aload_n hx 0 dX12_lays_0 rfl ?_
  refine j_aload_n hx 0 dX12_lays_1 rfl ?_
  refine j_iload_n hx 1 dX12_lays_2 rfl ?_
  refine j_callV hx hG (c_X12_takesFirst hst a x1) lk_RX12_371 ha (by decide) rfl rfl rfl rfl [.int (zI x1)] ⟨rfl, hG, hS0, ha, (by omega), (by omega), (by omega)⟩ rfl rfl ⟨by decide, by decide⟩ ⟨by decide, by decide⟩ (k2 := 0) (n2 := 0) rfl rfl (Nat.le_of_ble_eq_true rfl) dX12_lays_3 (kIM (fun v1 s1 hS_s1 hF_s1 q2 => ?_))
  refine p13_43 hx hG ha kf_RX12_374 dX12_lays_6 ?_
  obtain ⟨s2, e_s2⟩ : ∃ z, z = zU s1 a 43 v1 := ⟨_, rfl⟩
  rw [← e_s2]
  have hS_s2 : zSK G s2 := by rw [e_s2]; exact zSK_F hS_s1 ha rfl rfl rfl (by omega)
  refine j_aload_n hx 0 dX12_lays_9 rfl ?_
  refine j_aload_n hx 0 dX12_lays_10 rfl ?_
  refine g13_27 hx hG ha kf_RX12_56 dX12_lays_11 ?_
  refine j_sipush hx dX12_lays_14 rfl ?_
  refine j_aload_n hx 0 dX12_lays_17 rfl ?_
  refine g13_43 hx hG ha kf_RX12_374 (v := v1) (by rw [e_s2, zU_eq]) dX12_lays_18 ?_
  refine j_iadd hx (r := v1 + 420) dX12_lays_21 (by omega) ?_
  have f3 := zaQ (j := (v1 + 420).toNat) hS_s1 (zr (k := 27) (t2 := 84) hG ha rfl) (congrArg some (axS_1 (v1 + 420).toNat (by omega))) (zlen hG (zr (k := 27) (t2 := 84) hG ha rfl) (n := 515) rfl rfl) (show 0 ≤ v1 + 420 by omega) (by omega) rfl
  refine j_iald hx hG (zr (k := 27) (t2 := 84) hG ha rfl) (by decide) rfl (zlen hG (zr (k := 27) (t2 := 84) hG ha rfl) (n := 515) rfl rfl) (by omega) (by omega) (j := (v1 + 420).toNat) rfl (v := (s1 (gP G a 27) (v1 + 420).toNat)) (by rw [e_s2, zU_at (Or.inl (zne ha (zr (k := 27) (t2 := 84) hG ha rfl) (by decide)))]) dX12_lays_22 ?_
  refine j_iconst hx dX12_lays_23 ?_
  have c32_3 : ∀ (v4 : Int), (0 ≤ v4 ∧ v4 ≤ 1) → JJ X E 2 G s2 0 0 [(0, .ref a), (1, .int (zI x1))] 32 [.int (zI v4), .ref a] := by
    intro v4 fA4
    refine p13_44 hx hG ha kf_RX12_377 (by omega) dX12_lays_32 ?_
    obtain ⟨s5, e_s5⟩ : ∃ z, z = zU s2 a 44 v4 := ⟨_, rfl⟩
    rw [← e_s5]
    have hS_s5 : zSK G s5 := by rw [e_s5]; exact zSK_F hS_s2 ha rfl rfl rfl (by omega)
    refine j_aload_n hx 0 dX12_lays_35 rfl ?_
    refine g13_27 hx hG ha kf_RX12_56 dX12_lays_36 ?_
    refine j_sipush hx dX12_lays_39 rfl ?_
    refine j_aload_n hx 0 dX12_lays_42 rfl ?_
    refine g13_43 hx hG ha kf_RX12_374 (v := v1) (by rw [e_s5, zU_at (Or.inr (by decide)), e_s2, zU_eq]) dX12_lays_43 ?_
    refine j_iadd hx (r := v1 + 420) dX12_lays_46 (by omega) ?_
    refine j_iconst hx dX12_lays_47 ?_
    refine j_iast hx hG (zr (k := 27) (t2 := 84) hG ha rfl) (by decide) rfl (zlen hG (zr (k := 27) (t2 := 84) hG ha rfl) (n := 515) rfl rfl) (by omega) (by omega) (j := (v1 + 420).toNat) rfl dX12_lays_48 ?_
    obtain ⟨s6, e_s6⟩ : ∃ z, z = zU s5 (gP G a 27) (v1 + 420).toNat 1 := ⟨_, rfl⟩
    rw [← e_s6]
    have hS_s6 : zSK G s6 := by rw [e_s6]; exact zSK_a hS_s5 (zr (k := 27) (t2 := 84) hG ha rfl) rfl rfl (congrArg some (axS_1 (v1 + 420).toNat (by omega))) (by omega)
    have g6 : zc (s5 (gP G a 27)) = zc (s1 (gP G a 27)) := by rw [e_s5, zU_ne (zne ha (zr (k := 27) (t2 := 84) hG ha rfl) (by decide)), e_s2, zU_ne (zne ha (zr (k := 27) (t2 := 84) hG ha rfl) (by decide))]
    have z5 : zc (s6 (gP G a 27)) = zc (s5 (gP G a 27)) := by rw [e_s6]; exact zc_o (by omega)
    refine j_aload_n hx 0 dX12_lays_49 rfl ?_
    refine g13_27 hx hG ha kf_RX12_56 dX12_lays_50 ?_
    refine j_sipush hx dX12_lays_53 rfl ?_
    refine j_bipush hx dX12_lays_56 rfl ?_
    refine j_iload_n hx 1 dX12_lays_58 rfl ?_
    refine j_imul hx (r := 60 * x1) dX12_lays_59 rfl ?_
    refine j_iadd hx (r := 60 * x1 + 180) dX12_lays_60 (by omega) ?_
    refine j_aload_n hx 0 dX12_lays_61 rfl ?_
    refine g13_27 hx hG ha kf_RX12_56 dX12_lays_62 ?_
    refine j_sipush hx dX12_lays_65 rfl ?_
    refine j_iload_n hx 1 dX12_lays_68 rfl ?_
    refine j_iadd hx (r := x1 + 483) dX12_lays_69 (by omega) ?_
    have f7 := zaQ (j := (x1 + 483).toNat) hS_s1 (zr (k := 27) (t2 := 84) hG ha rfl) (congrArg some (axS_2 (x1 + 483).toNat (by omega))) (zlen hG (zr (k := 27) (t2 := 84) hG ha rfl) (n := 515) rfl rfl) (show 0 ≤ x1 + 483 by omega) (by omega) rfl
    have c8 := zc_1 (j := (x1 + 483).toNat) hS_s1 (zr (k := 27) (t2 := 84) hG ha rfl) (zn hG (zr (k := 27) (t2 := 84) hG ha rfl) rfl) (by omega) (by omega)
    refine j_iald hx hG (zr (k := 27) (t2 := 84) hG ha rfl) (by decide) rfl (zlen hG (zr (k := 27) (t2 := 84) hG ha rfl) (n := 515) rfl rfl) (by omega) (by omega) (j := (x1 + 483).toNat) rfl (v := (s1 (gP G a 27) (x1 + 483).toNat)) (by rw [e_s6, zU_at (Or.inr (by omega)), e_s5, zU_at (Or.inl (zne ha (zr (k := 27) (t2 := 84) hG ha rfl) (by decide))), e_s2, zU_at (Or.inl (zne ha (zr (k := 27) (t2 := 84) hG ha rfl) (by decide)))]) dX12_lays_70 ?_
    refine j_iadd hx (r := 60 * x1 + (s1 (gP G a 27) (x1 + 483).toNat) + 180) dX12_lays_71 (by omega) ?_
    refine j_aload_n hx 0 dX12_lays_72 rfl ?_
    refine g13_43 hx hG ha kf_RX12_374 (v := v1) (by rw [e_s6, zU_at (Or.inl (zne (zr (k := 27) (t2 := 84) hG ha rfl) ha (by decide))), e_s5, zU_at (Or.inr (by decide)), e_s2, zU_eq]) dX12_lays_73 ?_
    refine j_iast hx hG (zr (k := 27) (t2 := 84) hG ha rfl) (by decide) rfl (zlen hG (zr (k := 27) (t2 := 84) hG ha rfl) (n := 515) rfl rfl) (by omega) (by omega) (j := (60 * x1 + (s1 (gP G a 27) (x1 + 483).toNat) + 180).toNat) rfl dX12_lays_76 ?_
    obtain ⟨s7, e_s7⟩ : ∃ z, z = zU s6 (gP G a 27) (60 * x1 + (s1 (gP G a 27) (x1 + 483).toNat) + 180).toNat v1 := ⟨_, rfl⟩
    rw [← e_s7]
    have hS_s7 : zSK G s7 := by rw [e_s7]; exact zSK_a hS_s6 (zr (k := 27) (t2 := 84) hG ha rfl) rfl rfl (congrArg some (axS_0 (60 * x1 + (s1 (gP G a 27) (x1 + 483).toNat) + 180).toNat (by omega))) (by omega)
    have z9 : zc (s7 (gP G a 27)) = zc (s6 (gP G a 27)) := by rw [e_s7]; exact zc_o (by omega)
    refine j_aload_n hx 0 dX12_lays_77 rfl ?_
    refine g13_27 hx hG ha kf_RX12_56 dX12_lays_78 ?_
    refine j_sipush hx dX12_lays_81 rfl ?_
    refine j_iload_n hx 1 dX12_lays_84 rfl ?_
    refine j_iadd hx (r := x1 + 483) dX12_lays_85 (by omega) ?_
    refine j_dup2 hx dX12_lays_86 rfl rfl ?_
    refine j_iald hx hG (zr (k := 27) (t2 := 84) hG ha rfl) (by decide) rfl (zlen hG (zr (k := 27) (t2 := 84) hG ha rfl) (n := 515) rfl rfl) (by omega) (by omega) (j := (x1 + 483).toNat) rfl (v := (s1 (gP G a 27) (x1 + 483).toNat)) (by rw [e_s7, zU_at (Or.inr (by omega)), e_s6, zU_at (Or.inr (by omega)), e_s5, zU_at (Or.inl (zne ha (zr (k := 27) (t2 := 84) hG ha rfl) (by decide))), e_s2, zU_at (Or.inl (zne ha (zr (k := 27) (t2 := 84) hG ha rfl) (by decide)))]) dX12_lays_87 ?_
    refine j_iconst hx dX12_lays_88 ?_
    refine j_iadd hx (r := (s1 (gP G a 27) (x1 + 483).toNat) + 1) dX12_lays_89 (by omega) ?_
    refine j_iast hx hG (zr (k := 27) (t2 := 84) hG ha rfl) (by decide) rfl (zlen hG (zr (k := 27) (t2 := 84) hG ha rfl) (n := 515) rfl rfl) (by omega) (by omega) (j := (x1 + 483).toNat) rfl dX12_lays_90 ?_
    obtain ⟨s8, e_s8⟩ : ∃ z, z = zU s7 (gP G a 27) (x1 + 483).toNat ((s1 (gP G a 27) (x1 + 483).toNat) + 1) := ⟨_, rfl⟩
    rw [← e_s8]
    have hS_s8 : zSK G s8 := by rw [e_s8]; exact zSK_a hS_s7 (zr (k := 27) (t2 := 84) hG ha rfl) rfl rfl (congrArg some (axS_2 (x1 + 483).toNat (by omega))) (by omega)
    have g11 : s7 (gP G a 27) (x1 + 483).toNat = s1 (gP G a 27) (x1 + 483).toNat := (by rw [e_s7, zU_at (Or.inr (by omega)), e_s6, zU_at (Or.inr (by omega)), e_s5, zU_at (Or.inl (zne ha (zr (k := 27) (t2 := 84) hG ha rfl) (by decide))), e_s2, zU_at (Or.inl (zne ha (zr (k := 27) (t2 := 84) hG ha rfl) (by decide)))])
    have g12 : s8 (gP G a 27) (x1 + 483).toNat = (s1 (gP G a 27) (x1 + 483).toNat) + 1 := (by rw [e_s8, zU_eq])
    have z10 : zc (s8 (gP G a 27)) = zc (s7 (gP G a 27)) - s7 (gP G a 27) (x1 + 483).toNat + s8 (gP G a 27) (x1 + 483).toNat := by rw [e_s8, zU_eq]; exact zc_w (by omega) (by omega)
    have g13 : s8 (gP G a 27) 488 = s1 (gP G a 27) 488 := (by rw [e_s8, zU_at (Or.inr (by omega)), e_s7, zU_at (Or.inr (by omega)), e_s6, zU_at (Or.inr (by omega)), e_s5, zU_at (Or.inl (zne ha (zr (k := 27) (t2 := 84) hG ha rfl) (by decide))), e_s2, zU_at (Or.inl (zne ha (zr (k := 27) (t2 := 84) hG ha rfl) (by decide)))])
    have g14 : s8 a 0 = s0 a 0 := (by rw [e_s8, zU_at (Or.inl (zne (zr (k := 27) (t2 := 84) hG ha rfl) ha (by decide))), e_s7, zU_at (Or.inl (zne (zr (k := 27) (t2 := 84) hG ha rfl) ha (by decide))), e_s6, zU_at (Or.inl (zne (zr (k := 27) (t2 := 84) hG ha rfl) ha (by decide))), e_s5, zU_at (Or.inr (by decide)), e_s2, zU_at (Or.inr (by decide)), (zFr_g hF_s1 ha (by decide))])
    have f15 := zf hS0 ha (k := 0) rfl
    have g16 : s8 a 3 = s0 a 3 := (by rw [e_s8, zU_at (Or.inl (zne (zr (k := 27) (t2 := 84) hG ha rfl) ha (by decide))), e_s7, zU_at (Or.inl (zne (zr (k := 27) (t2 := 84) hG ha rfl) ha (by decide))), e_s6, zU_at (Or.inl (zne (zr (k := 27) (t2 := 84) hG ha rfl) ha (by decide))), e_s5, zU_at (Or.inr (by decide)), e_s2, zU_at (Or.inr (by decide)), (zFr_g hF_s1 ha (by decide))])
    have f17 := zf hS0 ha (k := 3) rfl
    have g18 : s8 a 4 = s0 a 4 := (by rw [e_s8, zU_at (Or.inl (zne (zr (k := 27) (t2 := 84) hG ha rfl) ha (by decide))), e_s7, zU_at (Or.inl (zne (zr (k := 27) (t2 := 84) hG ha rfl) ha (by decide))), e_s6, zU_at (Or.inl (zne (zr (k := 27) (t2 := 84) hG ha rfl) ha (by decide))), e_s5, zU_at (Or.inr (by decide)), e_s2, zU_at (Or.inr (by decide)), (zFr_g hF_s1 ha (by decide))])
    have f19 := zf hS0 ha (k := 4) rfl
    have g20 : s8 a 5 = s0 a 5 := (by rw [e_s8, zU_at (Or.inl (zne (zr (k := 27) (t2 := 84) hG ha rfl) ha (by decide))), e_s7, zU_at (Or.inl (zne (zr (k := 27) (t2 := 84) hG ha rfl) ha (by decide))), e_s6, zU_at (Or.inl (zne (zr (k := 27) (t2 := 84) hG ha rfl) ha (by decide))), e_s5, zU_at (Or.inr (by decide)), e_s2, zU_at (Or.inr (by decide)), (zFr_g hF_s1 ha (by decide))])
    have f21 := zf hS0 ha (k := 5) rfl
    have g22 : s8 a 7 = s0 a 7 := (by rw [e_s8, zU_at (Or.inl (zne (zr (k := 27) (t2 := 84) hG ha rfl) ha (by decide))), e_s7, zU_at (Or.inl (zne (zr (k := 27) (t2 := 84) hG ha rfl) ha (by decide))), e_s6, zU_at (Or.inl (zne (zr (k := 27) (t2 := 84) hG ha rfl) ha (by decide))), e_s5, zU_at (Or.inr (by decide)), e_s2, zU_at (Or.inr (by decide)), (zFr_g hF_s1 ha (by decide))])
    have f23 := zf hS0 ha (k := 7) rfl
    have g24 : s8 a 21 = s0 a 21 := (by rw [e_s8, zU_at (Or.inl (zne (zr (k := 27) (t2 := 84) hG ha rfl) ha (by decide))), e_s7, zU_at (Or.inl (zne (zr (k := 27) (t2 := 84) hG ha rfl) ha (by decide))), e_s6, zU_at (Or.inl (zne (zr (k := 27) (t2 := 84) hG ha rfl) ha (by decide))), e_s5, zU_at (Or.inr (by decide)), e_s2, zU_at (Or.inr (by decide)), (zFr_g hF_s1 ha (by decide))])
    have f25 := zf hS0 ha (k := 21) rfl
    have g26 : s8 a 22 = s0 a 22 := (by rw [e_s8, zU_at (Or.inl (zne (zr (k := 27) (t2 := 84) hG ha rfl) ha (by decide))), e_s7, zU_at (Or.inl (zne (zr (k := 27) (t2 := 84) hG ha rfl) ha (by decide))), e_s6, zU_at (Or.inl (zne (zr (k := 27) (t2 := 84) hG ha rfl) ha (by decide))), e_s5, zU_at (Or.inr (by decide)), e_s2, zU_at (Or.inr (by decide)), (zFr_g hF_s1 ha (by decide))])
    have f27 := zf hS0 ha (k := 22) rfl
    have g28 : s8 a 23 = s0 a 23 := (by rw [e_s8, zU_at (Or.inl (zne (zr (k := 27) (t2 := 84) hG ha rfl) ha (by decide))), e_s7, zU_at (Or.inl (zne (zr (k := 27) (t2 := 84) hG ha rfl) ha (by decide))), e_s6, zU_at (Or.inl (zne (zr (k := 27) (t2 := 84) hG ha rfl) ha (by decide))), e_s5, zU_at (Or.inr (by decide)), e_s2, zU_at (Or.inr (by decide)), (zFr_g hF_s1 ha (by decide))])
    have f29 := zf hS0 ha (k := 23) rfl
    have g30 : s8 a 24 = s0 a 24 := (by rw [e_s8, zU_at (Or.inl (zne (zr (k := 27) (t2 := 84) hG ha rfl) ha (by decide))), e_s7, zU_at (Or.inl (zne (zr (k := 27) (t2 := 84) hG ha rfl) ha (by decide))), e_s6, zU_at (Or.inl (zne (zr (k := 27) (t2 := 84) hG ha rfl) ha (by decide))), e_s5, zU_at (Or.inr (by decide)), e_s2, zU_at (Or.inr (by decide)), (zFr_g hF_s1 ha (by decide))])
    have f31 := zf hS0 ha (k := 24) rfl
    have g32 : s8 a 38 = s0 a 38 := (by rw [e_s8, zU_at (Or.inl (zne (zr (k := 27) (t2 := 84) hG ha rfl) ha (by decide))), e_s7, zU_at (Or.inl (zne (zr (k := 27) (t2 := 84) hG ha rfl) ha (by decide))), e_s6, zU_at (Or.inl (zne (zr (k := 27) (t2 := 84) hG ha rfl) ha (by decide))), e_s5, zU_at (Or.inr (by decide)), e_s2, zU_at (Or.inr (by decide)), (zFr_g hF_s1 ha (by decide))])
    have f33 := zf hS0 ha (k := 38) rfl
    have g34 : s8 a 51 = s0 a 51 := (by rw [e_s8, zU_at (Or.inl (zne (zr (k := 27) (t2 := 84) hG ha rfl) ha (by decide))), e_s7, zU_at (Or.inl (zne (zr (k := 27) (t2 := 84) hG ha rfl) ha (by decide))), e_s6, zU_at (Or.inl (zne (zr (k := 27) (t2 := 84) hG ha rfl) ha (by decide))), e_s5, zU_at (Or.inr (by decide)), e_s2, zU_at (Or.inr (by decide)), (zFr_g hF_s1 ha (by decide))])
    have f35 := zf hS0 ha (k := 51) rfl
    have g36 : s8 a 52 = s0 a 52 := (by rw [e_s8, zU_at (Or.inl (zne (zr (k := 27) (t2 := 84) hG ha rfl) ha (by decide))), e_s7, zU_at (Or.inl (zne (zr (k := 27) (t2 := 84) hG ha rfl) ha (by decide))), e_s6, zU_at (Or.inl (zne (zr (k := 27) (t2 := 84) hG ha rfl) ha (by decide))), e_s5, zU_at (Or.inr (by decide)), e_s2, zU_at (Or.inr (by decide)), (zFr_g hF_s1 ha (by decide))])
    have f37 := zf hS0 ha (k := 52) rfl
    exact j_vret hx hq rfl (by decide) (by decide) dX12_lays_91 ⟨rfl, rfl, hS_s8, (zFr_u (zFr_u (zFr_u (zFr_u (zFr_u (zFr_t zFr_rf hF_s1 (by decide)) e_s2 ha (by decide)) e_s5 ha (by decide)) e_s6 (zr (k := 27) (t2 := 84) hG ha rfl) (by decide)) e_s7 (zr (k := 27) (t2 := 84) hG ha rfl) (by decide)) e_s8 (zr (k := 27) (t2 := 84) hG ha rfl) (by decide)), ⟨by omega, by omega, by omega, by omega, by omega, by omega, by omega, by omega, by omega, by omega, by omega, by omega, by omega, by omega⟩⟩
  refine j_icmp_ne hx 31 dX12_lays_24 rfl (by omega) ⟨by decide, by decide⟩ (fun h38 => ?_) (fun h38 => ?_)
  · skip
    refine j_iconst hx dX12_lays_31 ?_
    exact j_sub [0, 1] [(0, .ref a), (1, .int (zI x1))] rfl (c32_3 0 (by omega))
  · skip
    refine j_iconst hx dX12_lays_27 ?_
    refine j_goto hx 32 dX12_lays_28 rfl ?_
    exact j_sub [0, 1] [(0, .ref a), (1, .int (zI x1))] rfl (c32_3 1 (by omega))

set_option maxHeartbeats 1200000 in
set_option maxRecDepth 20000 in
theorem c_X12_drawn {E : zE} {l : Launch} (hst : l.stackTraces = false) (a : Nat) : Con E l yX12_drawn cX12_drawn 1 (some .int) { frames := 0, cells := 0, slots := 0, locals := 0 } (fun G s vs => vs = [.ref a] ∧ zGK G ∧ zSK G s ∧ (gT G a = 13)) (fun G s _ => pI (fun r G2 s2 => G2 = G ∧ zSK G s2 ∧ zFr [84] G s s2 ∧ (0 ≤ r ∧ r ≤ 3) ∧ zc (s2 (gP G a 27)) = zc (s (gP G a 27)) ∧ s2 (gP G a 27) 488 = s (gP G a 27) 488)) := by
  refine Con.mk hst (by decide) (fun G s vs h => by rw [h.1]; exact Nat.le_of_ble_eq_true rfl) ?_
  rintro X G s0 vs ⟨rfl, hG, hS0, ha⟩ rfl hx hq
  show JJ X E 1 G s0 0 0 [(0, .ref a)] 0 []
  refine j_aload_n hx 0 dX12_drawn_0 rfl ?_
  refine g13_27 hx hG ha kf_RX12_56 dX12_drawn_1 ?_
  refine j_sipush hx dX12_drawn_4 rfl ?_
  refine j_aload_n hx 0 dX12_drawn_7 rfl ?_
  refine g13_27 hx hG ha kf_RX12_56 dX12_drawn_8 ?_
  refine j_sipush hx dX12_drawn_11 rfl ?_
  have f1 := zaQ (j := 489) hS0 (zr (k := 27) (t2 := 84) hG ha rfl) (congrArg some (axS_5 489 (by omega))) (zlen hG (zr (k := 27) (t2 := 84) hG ha rfl) (n := 515) rfl rfl) (show 0 ≤ 489 by omega) (by omega) rfl
  refine j_iald hx hG (zr (k := 27) (t2 := 84) hG ha rfl) (by decide) rfl (zlen hG (zr (k := 27) (t2 := 84) hG ha rfl) (n := 515) rfl rfl) (by omega) (by omega) (j := 489) rfl rfl dX12_drawn_14 ?_
  refine j_ldcw hx (c := 1103515245) dX12_drawn_15 kk_RX12_384 (by decide) ?_
  refine j_imul hx (r := 1103515245 * (s0 (gP G a 27) 489)) dX12_drawn_18 (by omega) ?_
  refine j_norm (fun v2 f3 f4 f5 => ?_)
  refine j_sipush hx dX12_drawn_19 rfl ?_
  refine j_iadd hx (r := v2 + 12345) dX12_drawn_22 rfl ?_
  refine j_norm (fun v6 f7 f8 f9 => ?_)
  refine j_iast hx hG (zr (k := 27) (t2 := 84) hG ha rfl) (by decide) rfl (zlen hG (zr (k := 27) (t2 := 84) hG ha rfl) (n := 515) rfl rfl) (by omega) (by omega) (j := 489) rfl dX12_drawn_23 ?_
  obtain ⟨s1, e_s1⟩ : ∃ z, z = zU s0 (gP G a 27) 489 v6 := ⟨_, rfl⟩
  rw [← e_s1]
  have hS_s1 : zSK G s1 := by rw [e_s1]; exact zSK_a hS0 (zr (k := 27) (t2 := 84) hG ha rfl) rfl rfl (congrArg some (axS_5 489 (by omega))) (by omega)
  have z10 : zc (s1 (gP G a 27)) = zc (s0 (gP G a 27)) := by rw [e_s1]; exact zc_o (by omega)
  refine j_aload_n hx 0 dX12_drawn_24 rfl ?_
  refine g13_27 hx hG ha kf_RX12_56 dX12_drawn_25 ?_
  refine j_sipush hx dX12_drawn_28 rfl ?_
  refine j_iald hx hG (zr (k := 27) (t2 := 84) hG ha rfl) (by decide) rfl (zlen hG (zr (k := 27) (t2 := 84) hG ha rfl) (n := 515) rfl rfl) (by omega) (by omega) (j := 489) rfl (v := v6) (by rw [e_s1, zU_eq]) dX12_drawn_31 ?_
  refine j_bipush hx dX12_drawn_32 rfl ?_
  refine j_ishr hx 16 65536 dX12_drawn_34 (by omega) rfl (by decide) (by decide) (fun v11 f12 f13 f14 f15 => ?_)
  refine j_iconst hx dX12_drawn_35 ?_
  refine j_iand hx dX12_drawn_36 (by omega) ⟨by decide, by decide⟩ (fun v16 f17 f18 f19 f20 _ => ?_)
  have g22 : s1 (gP G a 27) 488 = s0 (gP G a 27) 488 := (by rw [e_s1, zU_at (Or.inr (by decide))])
  exact j_iret hx hq rfl (by decide) (by decide) dX12_drawn_37 ⟨v16, rfl, rfl, hS_s1, (zFr_u zFr_rf e_s1 (zr (k := 27) (t2 := 84) hG ha rfl) (by decide)), ⟨(by omega), by omega, by omega⟩⟩

set_option maxHeartbeats 1200000 in
set_option maxRecDepth 20000 in
theorem c_X12_counts {E : zE} {l : Launch} (hst : l.stackTraces = false) (a : Nat) (x1 : Int) (x2 : Int) : Con E l yX12_counts cX12_counts 3 none { frames := 0, cells := 0, slots := 0, locals := 0 } (fun G s vs => vs = [.ref a, .int (zI x1), .int (zI x2)] ∧ zGK G ∧ zSK G s ∧ (gT G a = 13) ∧ (0 ≤ x1 ∧ x1 ≤ 2) ∧ (0 ≤ x2 ∧ x2 ≤ 5)) (fun G s _ => pV (fun G2 s2 => G2 = G ∧ zSK G s2 ∧ zFr [84] G s s2 ∧ zc (s2 (gP G a 27)) = zc (s (gP G a 27)) ∧ s2 (gP G a 27) 488 = s (gP G a 27) 488)) := by
  refine Con.mk hst (by decide) (fun G s vs h => by rw [h.1]; exact Nat.le_of_ble_eq_true rfl) ?_
  rintro X G s0 vs ⟨rfl, hG, hS0, ha, hx1, hx2⟩ rfl hx hq
  show JJ X E 3 G s0 0 0 [(0, .ref a), (1, .int (zI x1)), (2, .int (zI x2))] 0 []
  refine j_aload_n hx 0 dX12_counts_0 rfl ?_
  refine g13_27 hx hG ha kf_RX12_56 dX12_counts_1 ?_
  refine j_sipush hx dX12_counts_4 rfl ?_
  refine j_bipush hx dX12_counts_7 rfl ?_
  refine j_iload_n hx 1 dX12_counts_9 rfl ?_
  refine j_imul hx (r := 6 * x1) dX12_counts_10 rfl ?_
  refine j_iadd hx (r := 6 * x1 + 494) dX12_counts_11 (by omega) ?_
  refine j_iload_n hx 2 dX12_counts_12 rfl ?_
  refine j_iadd hx (r := 6 * x1 + x2 + 494) dX12_counts_13 (by omega) ?_
  refine j_dup2 hx dX12_counts_14 rfl rfl ?_
  have f1 := zaQ (j := (6 * x1 + x2 + 494).toNat) hS0 (zr (k := 27) (t2 := 84) hG ha rfl) (congrArg some (axS_8 (6 * x1 + x2 + 494).toNat (by omega))) (zlen hG (zr (k := 27) (t2 := 84) hG ha rfl) (n := 515) rfl rfl) (show 0 ≤ 6 * x1 + x2 + 494 by omega) (by omega) rfl
  refine j_iald hx hG (zr (k := 27) (t2 := 84) hG ha rfl) (by decide) rfl (zlen hG (zr (k := 27) (t2 := 84) hG ha rfl) (n := 515) rfl rfl) (by omega) (by omega) (j := (6 * x1 + x2 + 494).toNat) rfl rfl dX12_counts_15 ?_
  refine j_iconst hx dX12_counts_16 ?_
  refine j_iadd hx (r := (s0 (gP G a 27) (6 * x1 + x2 + 494).toNat) + 1) dX12_counts_17 (by omega) ?_
  refine j_norm (fun v2 f3 f4 f5 => ?_)
  refine j_iast hx hG (zr (k := 27) (t2 := 84) hG ha rfl) (by decide) rfl (zlen hG (zr (k := 27) (t2 := 84) hG ha rfl) (n := 515) rfl rfl) (by omega) (by omega) (j := (6 * x1 + x2 + 494).toNat) rfl dX12_counts_18 ?_
  obtain ⟨s1, e_s1⟩ : ∃ z, z = zU s0 (gP G a 27) (6 * x1 + x2 + 494).toNat v2 := ⟨_, rfl⟩
  rw [← e_s1]
  have hS_s1 : zSK G s1 := by rw [e_s1]; exact zSK_a hS0 (zr (k := 27) (t2 := 84) hG ha rfl) rfl rfl (congrArg some (axS_8 (6 * x1 + x2 + 494).toNat (by omega))) (by omega)
  have z6 : zc (s1 (gP G a 27)) = zc (s0 (gP G a 27)) := by rw [e_s1]; exact zc_o (by omega)
  have g7 : s1 (gP G a 27) 488 = s0 (gP G a 27) 488 := (by rw [e_s1, zU_at (Or.inr (by omega))])
  exact j_vret hx hq rfl (by decide) (by decide) dX12_counts_19 ⟨rfl, rfl, hS_s1, (zFr_u zFr_rf e_s1 (zr (k := 27) (t2 := 84) hG ha rfl) (by decide)), ⟨by omega, by omega⟩⟩

theorem lk_RX12_388 : LkV RX12 388 RX12 yX12_counts cX12_counts 3 none 2 := ⟨km_RX12_388, ki_yX12_counts, ks_RX12_yX12_counts, kn_RX12, kc_yX12_counts, rfl, by decide +kernel, by decide +kernel, by decide +kernel⟩
theorem lk_RX12_385 : LkV RX12 385 RX12 yX12_drawn cX12_drawn 1 (some .int) 0 := ⟨km_RX12_385, ki_yX12_drawn, ks_RX12_yX12_drawn, kn_RX12, kc_yX12_drawn, rfl, by decide +kernel, by decide +kernel, by decide +kernel⟩
set_option maxHeartbeats 1200000 in
set_option maxRecDepth 20000 in
theorem c_X12_plans {E : zE} {l : Launch} (hst : l.stackTraces = false) (a : Nat) (x1 : Int) : Con E l yX12_plans cX12_plans 5 none { frames := 4, cells := 0, slots := 0, locals := 96 } (fun G s vs => vs = [.ref a, .int (zI x1)] ∧ zGK G ∧ zSK G s ∧ (gT G a = 13) ∧ (0 ≤ x1 ∧ x1 ≤ 2) ∧ (zRva (s (gP G a 34)) (s (gP G a 35)) (s (gP G a 37)))) (fun G s _ => pV (fun G2 s2 => G2 = G ∧ zSK G s2 ∧ zFr [84, 95, 98] G s s2 ∧ zc (s2 (gP G a 27)) = zc (s (gP G a 27)) ∧ s2 (gP G a 27) 488 = s (gP G a 27) 488)) := by
  refine Con.mk hst (by decide) (fun G s vs h => by rw [h.1]; exact Nat.le_of_ble_eq_true rfl) ?_
  rintro X G s0 vs ⟨rfl, hG, hS0, ha, hx1, e0⟩ rfl hx hq
  show JJ X E 5 G s0 0 0 [(0, .ref a), (1, .int (zI x1))] 0 []
  refine j_aload_n hx 0 dX12_plans_0 rfl ?_
  refine j_iload_n hx 1 dX12_plans_1 rfl ?_
  refine j_callV hx hG (c_X12_next hst a x1) lk_RX12_331 ha (by decide) rfl rfl rfl rfl [.int (zI x1)] ⟨rfl, hG, hS0, ha, (by omega)⟩ rfl rfl ⟨by decide, by decide⟩ ⟨by decide, by decide⟩ (k2 := 0) (n2 := 0) rfl rfl (Nat.le_of_ble_eq_true rfl) dX12_plans_2 (kIP (fun v1 q2 => ?_))
  refine j_istore_n hx [(2, .int (zI v1)), (0, .ref a), (1, .int (zI x1))] dX12_plans_5 (by decide) rfl ?_
  refine j_iconst hx dX12_plans_6 ?_
  refine j_istore_n hx [(3, .int (zI 0)), (2, .int (zI v1)), (0, .ref a), (1, .int (zI x1))] dX12_plans_7 (by decide) rfl ?_
  have c8_1 : ∀ (m_c8_1 : Nat) (v3 : Int) (s2 : zS), 2147483648 - v3 < m_c8_1 → (0 ≤ v3 ∧ v3 ≤ 3) → (zSK G s2) → (zFr [84, 95, 98] G s0 s2) → (zc (s2 (gP G a 27)) = zc (s0 (gP G a 27))) → (s2 (gP G a 27) 488 = s0 (gP G a 27) 488) → JJ X E 5 G s2 0 0 [(0, .ref a), (1, .int (zI x1)), (2, .int (zI v1)), (3, .int (zI v3))] 8 [] := by
    intro m_c8_1
    induction m_c8_1 with
    | zero => intro v3 s2 hm_c8_1 fA3 hS_s2 hF_s2 fA6 fA7; exfalso; omega
    | succ m_c8_1 ih_c8_1 => 
      intro v3 s2 hm_c8_1 fA3 hS_s2 hF_s2 fA6 fA7
      refine j_iload_n hx 3 dX12_plans_8 rfl ?_
      refine j_aload_n hx 0 dX12_plans_9 rfl ?_
      have f4 := zf hS0 ha (k := 24) rfl
      refine g13_24 hx hG ha kf_RX12_189 (v := (s0 a 24)) (by rw [(zFr_g hF_s2 ha (by decide))]) dX12_plans_10 ?_
      refine j_icmp_ge hx 134 dX12_plans_13 rfl (by omega) (by omega) (fun h5 => ?_) (fun h5 => ?_)
      · skip
        exact j_vret hx hq rfl (by decide) (by decide) dX12_plans_134 ⟨rfl, rfl, hS_s2, (zFr_t zFr_rf hF_s2 (by decide)), ⟨by omega, by omega⟩⟩
      · skip
        refine j_aload_n hx 0 dX12_plans_16 rfl ?_
        refine j_iload_n hx 3 dX12_plans_17 rfl ?_
        refine j_callV hx hG (c_X12_isOut hst a v3) lk_RX12_325 ha (by decide) rfl rfl rfl rfl [.int (zI v3)] ⟨rfl, hG, hS_s2, ha, (by omega)⟩ rfl rfl ⟨by decide, by decide⟩ ⟨by decide, by decide⟩ (k2 := 0) (n2 := 0) rfl rfl (Nat.le_of_ble_eq_true rfl) dX12_plans_18 (kIP (fun v6 q7 => ?_))
        have c128_8 : ∀ (s9 : zS), (zSK G s9) → (zFr [84, 95, 98] G s2 s9) → (zc (s9 (gP G a 27)) = zc (s2 (gP G a 27))) → (s9 (gP G a 27) 488 = s2 (gP G a 27) 488) → JJ X E 5 G s9 0 0 [(0, .ref a), (1, .int (zI x1)), (2, .int (zI v1)), (3, .int (zI v3))] 128 [] := by
          intro s9 hS_s9 hF_s9 fA12 fA13
          refine j_iinc hx 3 [(3, .int (zI (v3 + 1))), (0, .ref a), (1, .int (zI x1)), (2, .int (zI v1))] dX12_plans_128 rfl (by omega) (by decide) rfl ?_
          refine j_goto hx 8 dX12_plans_131 rfl ?_
          exact j_sub [1, 2, 3, 0] [(0, .ref a), (1, .int (zI x1)), (2, .int (zI v1)), (3, .int (zI (v3 + 1)))] rfl (ih_c8_1 (v3 + 1) s9 (by omega) (by omega) hS_s9 (zFr_t (zFr_t zFr_rf hF_s2 (by decide)) hF_s9 (by decide)) (by omega) (by omega))
        refine j_if_ne hx 128 dX12_plans_21 rfl (by omega) (fun h8 => ?_) (fun h8 => ?_)
        · skip
          exact j_sub [0, 1, 2, 3] [(0, .ref a), (1, .int (zI x1)), (2, .int (zI v1)), (3, .int (zI v3))] rfl (c128_8 s2 hS_s2 zFr_rf (by omega) (by omega))
        · skip
          refine j_aload_n hx 0 dX12_plans_24 rfl ?_
          refine g13_45 hx hG ha kf_RX12_99 dX12_plans_25 ?_
          refine j_iload_n hx 3 dX12_plans_28 rfl ?_
          have f9 := zaI (j := (v3).toNat) hS_s2 (zr (k := 45) (t2 := 98) hG ha rfl) rfl (zlen hG (zr (k := 45) (t2 := 98) hG ha rfl) (n := 3) rfl rfl) (show 0 ≤ v3 by omega) (by omega) rfl
          refine j_iald hx hG (zr (k := 45) (t2 := 98) hG ha rfl) (by decide) rfl (zlen hG (zr (k := 45) (t2 := 98) hG ha rfl) (n := 3) rfl rfl) (by omega) (by omega) (j := (v3).toNat) rfl rfl dX12_plans_29 ?_
          refine j_iconst hx dX12_plans_30 ?_
          refine j_icmp_eq hx 128 dX12_plans_31 rfl (by omega) ⟨by decide, by decide⟩ (fun h10 => ?_) (fun h10 => ?_)
          · skip
            exact j_sub [0, 1, 2, 3] [(0, .ref a), (1, .int (zI x1)), (2, .int (zI v1)), (3, .int (zI v3))] rfl (c128_8 s2 hS_s2 zFr_rf (by omega) (by omega))
          · skip
            refine j_aload_n hx 0 dX12_plans_34 rfl ?_
            refine j_iload_n hx 3 dX12_plans_35 rfl ?_
            refine j_iload_n hx 3 dX12_plans_36 rfl ?_
            refine j_iload_n hx 2 dX12_plans_37 rfl ?_
            refine j_callV hx hG (c_X12_holds hst a v3 v3 v1) lk_RX12_358 ha (by decide) rfl rfl rfl rfl [.int (zI v3), .int (zI v3), .int (zI v1)] ⟨rfl, hG, hS_s2, ha, (by omega), (by omega), (by omega), ((by have q1 : s2 (gP G a 34) = s0 (gP G a 34) := (by rw [hF_s2 (gP G a 34) (by rw [(zr (k := 34) (t2 := 91) hG ha rfl)]; decide)]); have q2 : s2 (gP G a 35) = s0 (gP G a 35) := (by rw [hF_s2 (gP G a 35) (by rw [(zr (k := 35) (t2 := 92) hG ha rfl)]; decide)]); have q3 : s2 (gP G a 37) = s0 (gP G a 37) := (by rw [hF_s2 (gP G a 37) (by rw [(zr (k := 37) (t2 := 94) hG ha rfl)]; decide)]); rw [q1, q2, q3]; exact e0))⟩ rfl rfl ⟨by decide, by decide⟩ ⟨by decide, by decide⟩ (k2 := 0) (n2 := 0) rfl rfl (Nat.le_of_ble_eq_true rfl) dX12_plans_38 (kIM (fun v11 s14 hS_s14 hF_s14 q12 => ?_))
            refine j_if_ne hx 47 dX12_plans_41 rfl (by omega) (fun h13 => ?_) (fun h13 => ?_)
            · skip
              refine j_aload_n hx 0 dX12_plans_47 rfl ?_
              refine g13_17 hx hG ha kf_RX12_44 dX12_plans_48 ?_
              refine j_iconst hx dX12_plans_51 ?_
              refine j_iload_n hx 3 dX12_plans_52 rfl ?_
              refine j_imul hx (r := 4 * v3) dX12_plans_53 rfl ?_
              refine j_iconst hx dX12_plans_54 ?_
              refine j_iadd hx (r := 4 * v3 + 2) dX12_plans_55 (by omega) ?_
              have f14 := zaI (j := (4 * v3 + 2).toNat) hS0 (zr (k := 17) (t2 := 80) hG ha rfl) rfl (zlen hG (zr (k := 17) (t2 := 80) hG ha rfl) (n := 12) rfl rfl) (show 0 ≤ 4 * v3 + 2 by omega) (by omega) rfl
              refine j_iald hx hG (zr (k := 17) (t2 := 80) hG ha rfl) (by decide) rfl (zlen hG (zr (k := 17) (t2 := 80) hG ha rfl) (n := 12) rfl rfl) (by omega) (by omega) (j := (4 * v3 + 2).toNat) rfl (v := (s0 (gP G a 17) (4 * v3 + 2).toNat)) (by rw [(zFr_g hF_s14 (zr (k := 17) (t2 := 80) hG ha rfl) (by decide)), (zFr_g hF_s2 (zr (k := 17) (t2 := 80) hG ha rfl) (by decide))]) dX12_plans_56 ?_
              refine j_aload_n hx 0 dX12_plans_57 rfl ?_
              refine g13_17 hx hG ha kf_RX12_44 dX12_plans_58 ?_
              refine j_iconst hx dX12_plans_61 ?_
              refine j_iload_n hx 3 dX12_plans_62 rfl ?_
              refine j_imul hx (r := 4 * v3) dX12_plans_63 rfl ?_
              refine j_iconst hx dX12_plans_64 ?_
              refine j_iadd hx (r := 4 * v3 + 3) dX12_plans_65 (by omega) ?_
              have f15 := zaI (j := (4 * v3 + 3).toNat) hS0 (zr (k := 17) (t2 := 80) hG ha rfl) rfl (zlen hG (zr (k := 17) (t2 := 80) hG ha rfl) (n := 12) rfl rfl) (show 0 ≤ 4 * v3 + 3 by omega) (by omega) rfl
              refine j_iald hx hG (zr (k := 17) (t2 := 80) hG ha rfl) (by decide) rfl (zlen hG (zr (k := 17) (t2 := 80) hG ha rfl) (n := 12) rfl rfl) (by omega) (by omega) (j := (4 * v3 + 3).toNat) rfl (v := (s0 (gP G a 17) (4 * v3 + 3).toNat)) (by rw [(zFr_g hF_s14 (zr (k := 17) (t2 := 80) hG ha rfl) (by decide)), (zFr_g hF_s2 (zr (k := 17) (t2 := 80) hG ha rfl) (by decide))]) dX12_plans_66 ?_
              refine j_iload_n hx 1 dX12_plans_67 rfl ?_
              have g17 : s14 (gP G a 27) 488 = s2 (gP G a 27) 488 := (by rw [(zFr_g hF_s14 (zr (k := 27) (t2 := 84) hG ha rfl) (by decide))])
              have c76_15 : ∀ (v16 : Int), (0 ≤ v16 ∧ v16 ≤ 1) → (s14 (gP G a 27) 488 = s14 (gP G a 27) 488) → JJ X E 5 G s14 0 0 [(0, .ref a), (1, .int (zI x1)), (2, .int (zI v1)), (3, .int (zI v3))] 76 [.int (zI v16), .int (zI ((s0 (gP G a 17) (4 * v3 + 2).toNat)))] := by
                intro v16 fA16 fA17
                refine j_iadd hx (r := (s0 (gP G a 17) (4 * v3 + 2).toNat) + v16) dX12_plans_76 (by omega) ?_
                refine j_aload_n hx 0 dX12_plans_77 rfl ?_
                refine g13_27 hx hG ha kf_RX12_56 dX12_plans_78 ?_
                refine j_sipush hx dX12_plans_81 rfl ?_
                have f18 := zaQ (j := 490) hS_s2 (zr (k := 27) (t2 := 84) hG ha rfl) (congrArg some (axS_6 490 (by omega))) (zlen hG (zr (k := 27) (t2 := 84) hG ha rfl) (n := 515) rfl rfl) (show 0 ≤ 490 by omega) (by omega) rfl
                refine j_iald hx hG (zr (k := 27) (t2 := 84) hG ha rfl) (by decide) rfl (zlen hG (zr (k := 27) (t2 := 84) hG ha rfl) (n := 515) rfl rfl) (by omega) (by omega) (j := 490) rfl (v := (s2 (gP G a 27) 490)) (by rw [(zFr_g hF_s14 (zr (k := 27) (t2 := 84) hG ha rfl) (by decide))]) dX12_plans_84 ?_
                refine j_iconst hx dX12_plans_85 ?_
                have g20 : s14 (gP G a 27) 488 = s2 (gP G a 27) 488 := (by rw [(zFr_g hF_s14 (zr (k := 27) (t2 := 84) hG ha rfl) (by decide))])
                have g21 : zc (s14 (gP G a 27)) = zc (s2 (gP G a 27)) := by rw [hF_s14 (gP G a 27) (by rw [(zr (k := 27) (t2 := 84) hG ha rfl)]; decide)]
                have c97_18 : ∀ (v19 : Int) (s19 : zS), (0 ≤ v19 ∧ v19 ≤ 3) → (zSK G s19) → (zFr [84] G s14 s19) → (zc (s19 (gP G a 27)) = zc (s14 (gP G a 27))) → (s19 (gP G a 27) 488 = s14 (gP G a 27) 488) → JJ X E 5 G s19 0 0 [(0, .ref a), (1, .int (zI x1)), (2, .int (zI v1)), (3, .int (zI v3))] 97 [.int (zI v19), .int (zI ((s0 (gP G a 17) (4 * v3 + 2).toNat) + v16))] := by
                  intro v19 s19 fA20 hS_s19 hF_s19 fA23 fA24
                  refine j_iadd hx (r := (s0 (gP G a 17) (4 * v3 + 2).toNat) + v16 + v19) dX12_plans_97 (by omega) ?_
                  refine j_istore hx [(4, .int (zI ((s0 (gP G a 17) (4 * v3 + 2).toNat) + v16 + v19))), (0, .ref a), (1, .int (zI x1)), (2, .int (zI v1)), (3, .int (zI v3))] dX12_plans_98 (by decide) rfl ?_
                  refine j_iload hx 0 dX12_plans_100 rfl ?_
                  refine j_aload_n hx 1 dX12_plans_102 rfl ?_
                  refine g13_18 hx hG ha kf_RX12_47 dX12_plans_103 ?_
                  refine j_iload_n hx 2 dX12_plans_106 rfl ?_
                  have f22 := zaI (j := (x1).toNat) hS0 (zr (k := 18) (t2 := 81) hG ha rfl) rfl (zlen hG (zr (k := 18) (t2 := 81) hG ha rfl) (n := 3) rfl rfl) (show 0 ≤ x1 by omega) (by omega) rfl
                  refine j_iald hx hG (zr (k := 18) (t2 := 81) hG ha rfl) (by decide) rfl (zlen hG (zr (k := 18) (t2 := 81) hG ha rfl) (n := 3) rfl rfl) (by omega) (by omega) (j := (x1).toNat) rfl (v := (s0 (gP G a 18) (x1).toNat)) (by rw [(zFr_g hF_s19 (zr (k := 18) (t2 := 81) hG ha rfl) (by decide)), (zFr_g hF_s14 (zr (k := 18) (t2 := 81) hG ha rfl) (by decide)), (zFr_g hF_s2 (zr (k := 18) (t2 := 81) hG ha rfl) (by decide))]) dX12_plans_107 ?_
                  refine j_icmp_lt hx 120 dX12_plans_108 rfl (by omega) (by omega) (fun h23 => ?_) (fun h23 => ?_)
                  · skip
                    refine j_aload_n hx 1 dX12_plans_120 rfl ?_
                    refine g13_45 hx hG ha kf_RX12_99 dX12_plans_121 ?_
                    refine j_iload_n hx 4 dX12_plans_124 rfl ?_
                    refine j_iload hx 0 dX12_plans_125 rfl ?_
                    refine j_iast hx hG (zr (k := 45) (t2 := 98) hG ha rfl) (by decide) rfl (zlen hG (zr (k := 45) (t2 := 98) hG ha rfl) (n := 3) rfl rfl) (by omega) (by omega) (j := (v3).toNat) rfl dX12_plans_127 ?_
                    obtain ⟨s25, e_s25⟩ : ∃ z, z = zU s19 (gP G a 45) (v3).toNat ((s0 (gP G a 17) (4 * v3 + 2).toNat) + v16 + v19) := ⟨_, rfl⟩
                    rw [← e_s25]
                    have hS_s25 : zSK G s25 := by rw [e_s25]; exact zSK_A hS_s19 (zr (k := 45) (t2 := 98) hG ha rfl) rfl rfl rfl (by omega)
                    have g24 : zc (s25 (gP G a 27)) = zc (s19 (gP G a 27)) := by rw [e_s25, zU_ne (zne (zr (k := 45) (t2 := 98) hG ha rfl) (zr (k := 27) (t2 := 84) hG ha rfl) (by decide))]
                    have g25 : s25 (gP G a 27) 488 = s19 (gP G a 27) 488 := (by rw [e_s25, zU_at (Or.inl (zne (zr (k := 45) (t2 := 98) hG ha rfl) (zr (k := 27) (t2 := 84) hG ha rfl) (by decide)))])
                    exact j_sub [1, 2, 3, 4] [(0, .ref a), (1, .int (zI x1)), (2, .int (zI v1)), (3, .int (zI v3))] rfl (c128_8 s25 hS_s25 (zFr_u (zFr_t (zFr_t zFr_rf hF_s14 (by decide)) hF_s19 (by decide)) e_s25 (zr (k := 45) (t2 := 98) hG ha rfl) (by decide)) (by omega) (by omega))
                  · skip
                    refine j_aload_n hx 1 dX12_plans_111 rfl ?_
                    refine j_iload_n hx 4 dX12_plans_112 rfl ?_
                    refine j_iconst hx dX12_plans_113 ?_
                    refine j_callV hx hG (c_X12_counts hst a v3 5) lk_RX12_388 ha (by decide) rfl rfl rfl rfl [.int (zI v3), .int (zI 5)] ⟨rfl, hG, hS_s19, ha, (by omega), (by omega)⟩ rfl rfl ⟨by decide, by decide⟩ ⟨by decide, by decide⟩ (k2 := 0) (n2 := 0) rfl rfl (Nat.le_of_ble_eq_true rfl) dX12_plans_114 (kVM (fun s26 hS_s26 hF_s26 q27 => ?_))
                    refine j_goto hx 128 dX12_plans_117 rfl ?_
                    exact j_sub [1, 2, 3, 4] [(0, .ref a), (1, .int (zI x1)), (2, .int (zI v1)), (3, .int (zI v3))] rfl (c128_8 s26 hS_s26 (zFr_t (zFr_t (zFr_t zFr_rf hF_s14 (by decide)) hF_s19 (by decide)) hF_s26 (by decide)) (by omega) (by omega))
                refine j_icmp_ne hx 96 dX12_plans_86 rfl (by omega) ⟨by decide, by decide⟩ (fun h28 => ?_) (fun h28 => ?_)
                · skip
                  refine j_iconst hx dX12_plans_96 ?_
                  exact j_sub [0, 1, 2, 3] [(0, .ref a), (1, .int (zI x1)), (2, .int (zI v1)), (3, .int (zI v3))] rfl (c97_18 0 s14 (by omega) hS_s14 zFr_rf (by omega) (by omega))
                · skip
                  refine j_aload_n hx 0 dX12_plans_89 rfl ?_
                  refine j_callV hx hG (c_X12_drawn hst a) lk_RX12_385 ha (by decide) rfl rfl rfl rfl [] ⟨rfl, hG, hS_s14, ha⟩ rfl rfl ⟨by decide, by decide⟩ ⟨by decide, by decide⟩ (k2 := 0) (n2 := 0) rfl rfl (Nat.le_of_ble_eq_true rfl) dX12_plans_90 (kIM (fun v29 s27 hS_s27 hF_s27 q30 => ?_))
                  refine j_goto hx 97 dX12_plans_93 rfl ?_
                  exact j_sub [0, 1, 2, 3] [(0, .ref a), (1, .int (zI x1)), (2, .int (zI v1)), (3, .int (zI v3))] rfl (c97_18 v29 s27 (by omega) hS_s27 (zFr_t zFr_rf hF_s27 (by decide)) (by omega) (by omega))
              refine j_icmp_ne hx 75 dX12_plans_68 rfl (by omega) (by omega) (fun h31 => ?_) (fun h31 => ?_)
              · skip
                refine j_iconst hx dX12_plans_75 ?_
                exact j_sub [0, 1, 2, 3] [(0, .ref a), (1, .int (zI x1)), (2, .int (zI v1)), (3, .int (zI v3))] rfl (c76_15 1 (by omega) (by omega))
              · skip
                refine j_iconst hx dX12_plans_71 ?_
                refine j_goto hx 76 dX12_plans_72 rfl ?_
                exact j_sub [0, 1, 2, 3] [(0, .ref a), (1, .int (zI x1)), (2, .int (zI v1)), (3, .int (zI v3))] rfl (c76_15 0 (by omega) (by omega))
            · skip
              refine j_goto hx 128 dX12_plans_44 rfl ?_
              have g32 : zc (s14 (gP G a 27)) = zc (s2 (gP G a 27)) := by rw [hF_s14 (gP G a 27) (by rw [(zr (k := 27) (t2 := 84) hG ha rfl)]; decide)]
              have g33 : s14 (gP G a 27) 488 = s2 (gP G a 27) 488 := (by rw [(zFr_g hF_s14 (zr (k := 27) (t2 := 84) hG ha rfl) (by decide))])
              exact j_sub [0, 1, 2, 3] [(0, .ref a), (1, .int (zI x1)), (2, .int (zI v1)), (3, .int (zI v3))] rfl (c128_8 s14 hS_s14 (zFr_t zFr_rf hF_s14 (by decide)) (by omega) (by omega))
  exact j_sub [2, 3, 1, 0] [(0, .ref a), (1, .int (zI x1)), (2, .int (zI v1)), (3, .int (zI 0))] rfl (c8_1 (2147483648 * 4) 0 s0 (by omega) (by omega) hS0 zFr_rf (by omega) (by omega))

set_option maxHeartbeats 1200000 in
set_option maxRecDepth 20000 in
theorem c_X12_pools {E : zE} {l : Launch} (hst : l.stackTraces = false) (a : Nat) (x1 : Int) : Con E l yX12_pools cX12_pools 2 none { frames := 0, cells := 0, slots := 0, locals := 0 } (fun G s vs => vs = [.ref a, .int (zI x1)] ∧ zGK G ∧ zSK G s ∧ (gT G a = 13) ∧ (0 ≤ x1 ∧ x1 ≤ 59) ∧ (zc (s (gP G a 27)) ≤ 59)) (fun G s _ => pV (fun G2 s2 => G2 = G ∧ zSK G s2 ∧ zFr [84] G s s2 ∧ zc (s2 (gP G a 27)) = zc (s (gP G a 27)) + 1 ∧ s2 (gP G a 27) 488 = s (gP G a 27) 488)) := by
  refine Con.mk hst (by decide) (fun G s vs h => by rw [h.1]; exact Nat.le_of_ble_eq_true rfl) ?_
  rintro X G s0 vs ⟨rfl, hG, hS0, ha, hx1, e0⟩ rfl hx hq
  show JJ X E 2 G s0 0 0 [(0, .ref a), (1, .int (zI x1))] 0 []
  refine j_aload_n hx 0 dX12_pools_0 rfl ?_
  refine g13_27 hx hG ha kf_RX12_56 dX12_pools_1 ?_
  refine j_sipush hx dX12_pools_4 rfl ?_
  refine j_aload_n hx 0 dX12_pools_7 rfl ?_
  refine g13_27 hx hG ha kf_RX12_56 dX12_pools_8 ?_
  refine j_sipush hx dX12_pools_11 rfl ?_
  have f1 := zaQ (j := 486) hS0 (zr (k := 27) (t2 := 84) hG ha rfl) (congrArg some (axS_2 486 (by omega))) (zlen hG (zr (k := 27) (t2 := 84) hG ha rfl) (n := 515) rfl rfl) (show 0 ≤ 486 by omega) (by omega) rfl
  have c2 := zc_1 (j := 486) hS0 (zr (k := 27) (t2 := 84) hG ha rfl) (zn hG (zr (k := 27) (t2 := 84) hG ha rfl) rfl) (by omega) (by omega)
  refine j_iald hx hG (zr (k := 27) (t2 := 84) hG ha rfl) (by decide) rfl (zlen hG (zr (k := 27) (t2 := 84) hG ha rfl) (n := 515) rfl rfl) (by omega) (by omega) (j := 486) rfl rfl dX12_pools_14 ?_
  refine j_iadd hx (r := (s0 (gP G a 27) 486) + 360) dX12_pools_15 (by omega) ?_
  refine j_iload_n hx 1 dX12_pools_16 rfl ?_
  refine j_iast hx hG (zr (k := 27) (t2 := 84) hG ha rfl) (by decide) rfl (zlen hG (zr (k := 27) (t2 := 84) hG ha rfl) (n := 515) rfl rfl) (by omega) (by omega) (j := ((s0 (gP G a 27) 486) + 360).toNat) rfl dX12_pools_17 ?_
  obtain ⟨s1, e_s1⟩ : ∃ z, z = zU s0 (gP G a 27) ((s0 (gP G a 27) 486) + 360).toNat x1 := ⟨_, rfl⟩
  rw [← e_s1]
  have hS_s1 : zSK G s1 := by rw [e_s1]; exact zSK_a hS0 (zr (k := 27) (t2 := 84) hG ha rfl) rfl rfl (congrArg some (axS_0 ((s0 (gP G a 27) 486) + 360).toNat (by omega))) (by omega)
  have z3 : zc (s1 (gP G a 27)) = zc (s0 (gP G a 27)) := by rw [e_s1]; exact zc_o (by omega)
  refine j_aload_n hx 0 dX12_pools_18 rfl ?_
  refine g13_27 hx hG ha kf_RX12_56 dX12_pools_19 ?_
  refine j_sipush hx dX12_pools_22 rfl ?_
  refine j_dup2 hx dX12_pools_25 rfl rfl ?_
  refine j_iald hx hG (zr (k := 27) (t2 := 84) hG ha rfl) (by decide) rfl (zlen hG (zr (k := 27) (t2 := 84) hG ha rfl) (n := 515) rfl rfl) (by omega) (by omega) (j := 486) rfl (v := (s0 (gP G a 27) 486)) (by rw [e_s1, zU_at (Or.inr (by omega))]) dX12_pools_26 ?_
  refine j_iconst hx dX12_pools_27 ?_
  refine j_iadd hx (r := (s0 (gP G a 27) 486) + 1) dX12_pools_28 (by omega) ?_
  refine j_iast hx hG (zr (k := 27) (t2 := 84) hG ha rfl) (by decide) rfl (zlen hG (zr (k := 27) (t2 := 84) hG ha rfl) (n := 515) rfl rfl) (by omega) (by omega) (j := 486) rfl dX12_pools_29 ?_
  obtain ⟨s2, e_s2⟩ : ∃ z, z = zU s1 (gP G a 27) 486 ((s0 (gP G a 27) 486) + 1) := ⟨_, rfl⟩
  rw [← e_s2]
  have hS_s2 : zSK G s2 := by rw [e_s2]; exact zSK_a hS_s1 (zr (k := 27) (t2 := 84) hG ha rfl) rfl rfl (congrArg some (axS_2 486 (by omega))) (by omega)
  have g5 : s1 (gP G a 27) 486 = s0 (gP G a 27) 486 := (by rw [e_s1, zU_at (Or.inr (by omega))])
  have g6 : s2 (gP G a 27) 486 = (s0 (gP G a 27) 486) + 1 := (by rw [e_s2, zU_eq])
  have z4 : zc (s2 (gP G a 27)) = zc (s1 (gP G a 27)) - s1 (gP G a 27) 486 + s2 (gP G a 27) 486 := by rw [e_s2, zU_eq]; exact zc_w (by omega) (by omega)
  have g7 : s2 (gP G a 27) 488 = s0 (gP G a 27) 488 := (by rw [e_s2, zU_at (Or.inr (by decide)), e_s1, zU_at (Or.inr (by omega))])
  exact j_vret hx hq rfl (by decide) (by decide) dX12_pools_30 ⟨rfl, rfl, hS_s2, (zFr_u (zFr_u zFr_rf e_s1 (zr (k := 27) (t2 := 84) hG ha rfl) (by decide)) e_s2 (zr (k := 27) (t2 := 84) hG ha rfl) (by decide)), ⟨by omega, by omega⟩⟩

theorem lk_RX12_381 : LkV RX12 381 RX12 yX12_pools cX12_pools 2 none 1 := ⟨km_RX12_381, ki_yX12_pools, ks_RX12_yX12_pools, kn_RX12, kc_yX12_pools, rfl, by decide +kernel, by decide +kernel, by decide +kernel⟩
set_option maxHeartbeats 1200000 in
set_option maxRecDepth 20000 in
theorem c_X12_falls {E : zE} {l : Launch} (hst : l.stackTraces = false) (a : Nat) (x1 : Int) : Con E l yX12_falls cX12_falls 4 none { frames := 3, cells := 0, slots := 0, locals := 70 } (fun G s vs => vs = [.ref a, .int (zI x1)] ∧ zGK G ∧ zSK G s ∧ (gT G a = 13) ∧ (0 ≤ x1 ∧ x1 ≤ 2) ∧ (zc (s (gP G a 27)) ≤ 60)) (fun G s _ => pV (fun G2 s2 => G2 = G ∧ zSK G s2 ∧ zFr [84] G s s2 ∧ zc (s2 (gP G a 27)) = zc (s (gP G a 27)) ∧ s2 (gP G a 27) 488 = s (gP G a 27) 488)) := by
  refine Con.mk hst (by decide) (fun G s vs h => by rw [h.1]; exact Nat.le_of_ble_eq_true rfl) ?_
  rintro X G s0 vs ⟨rfl, hG, hS0, ha, hx1, e0⟩ rfl hx hq
  show JJ X E 4 G s0 0 0 [(0, .ref a), (1, .int (zI x1))] 0 []
  refine j_aload_n hx 0 dX12_falls_0 rfl ?_
  refine g13_27 hx hG ha kf_RX12_56 dX12_falls_1 ?_
  refine j_sipush hx dX12_falls_4 rfl ?_
  have f1 := zaQ (j := 491) hS0 (zr (k := 27) (t2 := 84) hG ha rfl) (congrArg some (axS_7 491 (by omega))) (zlen hG (zr (k := 27) (t2 := 84) hG ha rfl) (n := 515) rfl rfl) (show 0 ≤ 491 by omega) (by omega) rfl
  refine j_iald hx hG (zr (k := 27) (t2 := 84) hG ha rfl) (by decide) rfl (zlen hG (zr (k := 27) (t2 := 84) hG ha rfl) (n := 515) rfl rfl) (by omega) (by omega) (j := 491) rfl rfl dX12_falls_7 ?_
  refine j_istore_n hx [(2, .int (zI ((s0 (gP G a 27) 491)))), (0, .ref a), (1, .int (zI x1))] dX12_falls_8 (by decide) rfl ?_
  refine j_iload_n hx 0 dX12_falls_9 rfl ?_
  refine j_if_ne hx 38 dX12_falls_10 rfl (by omega) (fun h2 => ?_) (fun h2 => ?_)
  · skip
    refine j_iload_n hx 0 dX12_falls_38 rfl ?_
    refine j_iconst hx dX12_falls_39 ?_
    have c68_1 : JJ X E 4 G s0 0 0 [(0, .ref a), (1, .int (zI x1)), (2, .int (zI ((s0 (gP G a 27) 491))))] 68 [] := by
      refine j_iload_n hx 2 dX12_falls_68 rfl ?_
      refine j_iconst hx dX12_falls_69 ?_
      refine j_icmp_ne hx 128 dX12_falls_70 rfl (by omega) ⟨by decide, by decide⟩ (fun h3 => ?_) (fun h3 => ?_)
      · skip
        exact j_vret hx hq rfl (by decide) (by decide) dX12_falls_128 ⟨rfl, rfl, hS0, zFr_rf, ⟨by omega, by omega⟩⟩
      · skip
        refine j_aload_n hx 0 dX12_falls_73 rfl ?_
        refine g13_27 hx hG ha kf_RX12_56 dX12_falls_74 ?_
        refine j_sipush hx dX12_falls_77 rfl ?_
        refine j_iload_n hx 1 dX12_falls_80 rfl ?_
        refine j_iadd hx (r := x1 + 483) dX12_falls_81 (by omega) ?_
        have f4 := zaQ (j := (x1 + 483).toNat) hS0 (zr (k := 27) (t2 := 84) hG ha rfl) (congrArg some (axS_2 (x1 + 483).toNat (by omega))) (zlen hG (zr (k := 27) (t2 := 84) hG ha rfl) (n := 515) rfl rfl) (show 0 ≤ x1 + 483 by omega) (by omega) rfl
        have c5 := zc_1 (j := (x1 + 483).toNat) hS0 (zr (k := 27) (t2 := 84) hG ha rfl) (zn hG (zr (k := 27) (t2 := 84) hG ha rfl) rfl) (by omega) (by omega)
        refine j_iald hx hG (zr (k := 27) (t2 := 84) hG ha rfl) (by decide) rfl (zlen hG (zr (k := 27) (t2 := 84) hG ha rfl) (n := 515) rfl rfl) (by omega) (by omega) (j := (x1 + 483).toNat) rfl rfl dX12_falls_82 ?_
        refine j_if_le hx 128 dX12_falls_83 rfl (by omega) (fun h6 => ?_) (fun h6 => ?_)
        · skip
          exact j_vret hx hq rfl (by decide) (by decide) dX12_falls_128 ⟨rfl, rfl, hS0, zFr_rf, ⟨by omega, by omega⟩⟩
        · skip
          refine j_aload_n hx 0 dX12_falls_86 rfl ?_
          refine g13_27 hx hG ha kf_RX12_56 dX12_falls_87 ?_
          refine j_sipush hx dX12_falls_90 rfl ?_
          refine j_iload_n hx 1 dX12_falls_93 rfl ?_
          refine j_iadd hx (r := x1 + 483) dX12_falls_94 (by omega) ?_
          refine j_dup2 hx dX12_falls_95 rfl rfl ?_
          refine j_iald hx hG (zr (k := 27) (t2 := 84) hG ha rfl) (by decide) rfl (zlen hG (zr (k := 27) (t2 := 84) hG ha rfl) (n := 515) rfl rfl) (by omega) (by omega) (j := (x1 + 483).toNat) rfl rfl dX12_falls_96 ?_
          refine j_iconst hx dX12_falls_97 ?_
          refine j_isub hx (r := (s0 (gP G a 27) (x1 + 483).toNat) - 1) dX12_falls_98 (by omega) ?_
          refine j_iast hx hG (zr (k := 27) (t2 := 84) hG ha rfl) (by decide) rfl (zlen hG (zr (k := 27) (t2 := 84) hG ha rfl) (n := 515) rfl rfl) (by omega) (by omega) (j := (x1 + 483).toNat) rfl dX12_falls_99 ?_
          obtain ⟨s2, e_s2⟩ : ∃ z, z = zU s0 (gP G a 27) (x1 + 483).toNat ((s0 (gP G a 27) (x1 + 483).toNat) - 1) := ⟨_, rfl⟩
          rw [← e_s2]
          have hS_s2 : zSK G s2 := by rw [e_s2]; exact zSK_a hS0 (zr (k := 27) (t2 := 84) hG ha rfl) rfl rfl (congrArg some (axS_2 (x1 + 483).toNat (by omega))) (by omega)
          have g8 : s2 (gP G a 27) (x1 + 483).toNat = (s0 (gP G a 27) (x1 + 483).toNat) - 1 := (by rw [e_s2, zU_eq])
          have z7 : zc (s2 (gP G a 27)) = zc (s0 (gP G a 27)) - s0 (gP G a 27) (x1 + 483).toNat + s2 (gP G a 27) (x1 + 483).toNat := by rw [e_s2, zU_eq]; exact zc_w (by omega) (by omega)
          refine j_aload_n hx 0 dX12_falls_100 rfl ?_
          refine j_aload_n hx 0 dX12_falls_101 rfl ?_
          refine g13_27 hx hG ha kf_RX12_56 dX12_falls_102 ?_
          refine j_sipush hx dX12_falls_105 rfl ?_
          refine j_bipush hx dX12_falls_108 rfl ?_
          refine j_iload_n hx 1 dX12_falls_110 rfl ?_
          refine j_imul hx (r := 60 * x1) dX12_falls_111 rfl ?_
          refine j_iadd hx (r := 60 * x1 + 180) dX12_falls_112 (by omega) ?_
          refine j_aload_n hx 0 dX12_falls_113 rfl ?_
          refine g13_27 hx hG ha kf_RX12_56 dX12_falls_114 ?_
          refine j_sipush hx dX12_falls_117 rfl ?_
          refine j_iload_n hx 1 dX12_falls_120 rfl ?_
          refine j_iadd hx (r := x1 + 483) dX12_falls_121 (by omega) ?_
          refine j_iald hx hG (zr (k := 27) (t2 := 84) hG ha rfl) (by decide) rfl (zlen hG (zr (k := 27) (t2 := 84) hG ha rfl) (n := 515) rfl rfl) (by omega) (by omega) (j := (x1 + 483).toNat) rfl (v := (s0 (gP G a 27) (x1 + 483).toNat) - 1) (by rw [e_s2, zU_eq]) dX12_falls_122 ?_
          refine j_iadd hx (r := 60 * x1 + (s0 (gP G a 27) (x1 + 483).toNat) + 179) dX12_falls_123 (by omega) ?_
          have f9 := zaQ (j := (60 * x1 + (s0 (gP G a 27) (x1 + 483).toNat) + 179).toNat) hS0 (zr (k := 27) (t2 := 84) hG ha rfl) (congrArg some (axS_0 (60 * x1 + (s0 (gP G a 27) (x1 + 483).toNat) + 179).toNat (by omega))) (zlen hG (zr (k := 27) (t2 := 84) hG ha rfl) (n := 515) rfl rfl) (show 0 ≤ 60 * x1 + (s0 (gP G a 27) (x1 + 483).toNat) + 179 by omega) (by omega) rfl
          refine j_iald hx hG (zr (k := 27) (t2 := 84) hG ha rfl) (by decide) rfl (zlen hG (zr (k := 27) (t2 := 84) hG ha rfl) (n := 515) rfl rfl) (by omega) (by omega) (j := (60 * x1 + (s0 (gP G a 27) (x1 + 483).toNat) + 179).toNat) rfl (v := (s0 (gP G a 27) (60 * x1 + (s0 (gP G a 27) (x1 + 483).toNat) + 179).toNat)) (by rw [e_s2, zU_at (Or.inr (by omega))]) dX12_falls_124 ?_
          have g10 : s2 (gP G a 27) 488 = s0 (gP G a 27) 488 := (by rw [e_s2, zU_at (Or.inr (by omega))])
          refine j_callV hx hG (c_X12_pools hst a ((s0 (gP G a 27) (60 * x1 + (s0 (gP G a 27) (x1 + 483).toNat) + 179).toNat))) lk_RX12_381 ha (by decide) rfl rfl rfl rfl [.int (zI ((s0 (gP G a 27) (60 * x1 + (s0 (gP G a 27) (x1 + 483).toNat) + 179).toNat)))] ⟨rfl, hG, hS_s2, ha, (by omega), (by omega)⟩ rfl rfl ⟨by decide, by decide⟩ ⟨by decide, by decide⟩ (k2 := 0) (n2 := 0) rfl rfl (Nat.le_of_ble_eq_true rfl) dX12_falls_125 (kVM (fun s3 hS_s3 hF_s3 q12 => ?_))
          exact j_vret hx hq rfl (by decide) (by decide) dX12_falls_128 ⟨rfl, rfl, hS_s3, (zFr_t (zFr_u zFr_rf e_s2 (zr (k := 27) (t2 := 84) hG ha rfl) (by decide)) hF_s3 (by decide)), ⟨by omega, by omega⟩⟩
    refine j_icmp_ne hx 68 dX12_falls_40 rfl (by omega) ⟨by decide, by decide⟩ (fun h13 => ?_) (fun h13 => ?_)
    · skip
      exact j_sub [1, 2, 0] [(0, .ref a), (1, .int (zI x1)), (2, .int (zI ((s0 (gP G a 27) 491))))] rfl (c68_1  )
    · skip
      refine j_aload_n hx 1 dX12_falls_43 rfl ?_
      refine g13_27 hx hG ha kf_RX12_56 dX12_falls_44 ?_
      refine j_sipush hx dX12_falls_47 rfl ?_
      refine j_iload_n hx 2 dX12_falls_50 rfl ?_
      refine j_iadd hx (r := x1 + 480) dX12_falls_51 (by omega) ?_
      have f14 := zaQ (j := (x1 + 480).toNat) hS0 (zr (k := 27) (t2 := 84) hG ha rfl) (congrArg some (axS_2 (x1 + 480).toNat (by omega))) (zlen hG (zr (k := 27) (t2 := 84) hG ha rfl) (n := 515) rfl rfl) (show 0 ≤ x1 + 480 by omega) (by omega) rfl
      have c15 := zc_1 (j := (x1 + 480).toNat) hS0 (zr (k := 27) (t2 := 84) hG ha rfl) (zn hG (zr (k := 27) (t2 := 84) hG ha rfl) rfl) (by omega) (by omega)
      refine j_iald hx hG (zr (k := 27) (t2 := 84) hG ha rfl) (by decide) rfl (zlen hG (zr (k := 27) (t2 := 84) hG ha rfl) (n := 515) rfl rfl) (by omega) (by omega) (j := (x1 + 480).toNat) rfl rfl dX12_falls_52 ?_
      refine j_if_le hx 68 dX12_falls_53 rfl (by omega) (fun h16 => ?_) (fun h16 => ?_)
      · skip
        exact j_sub [1, 2, 0] [(0, .ref a), (1, .int (zI x1)), (2, .int (zI ((s0 (gP G a 27) 491))))] rfl (c68_1  )
      · skip
        refine j_aload_n hx 1 dX12_falls_56 rfl ?_
        refine j_aload_n hx 1 dX12_falls_57 rfl ?_
        refine j_iload_n hx 2 dX12_falls_58 rfl ?_
        refine j_callV hx hG (c_X12_takesFirst hst a x1) lk_RX12_371 ha (by decide) rfl rfl rfl rfl [.int (zI x1)] ⟨rfl, hG, hS0, ha, (by omega), (by omega), (by omega)⟩ rfl rfl ⟨by decide, by decide⟩ ⟨by decide, by decide⟩ (k2 := 0) (n2 := 0) rfl rfl (Nat.le_of_ble_eq_true rfl) dX12_falls_59 (kIM (fun v17 s4 hS_s4 hF_s4 q18 => ?_))
        refine j_callV hx hG (c_X12_pools hst a v17) lk_RX12_381 ha (by decide) rfl rfl rfl rfl [.int (zI v17)] ⟨rfl, hG, hS_s4, ha, (by omega), (by omega)⟩ rfl rfl ⟨by decide, by decide⟩ ⟨by decide, by decide⟩ (k2 := 0) (n2 := 0) rfl rfl (Nat.le_of_ble_eq_true rfl) dX12_falls_62 (kVM (fun s5 hS_s5 hF_s5 q20 => ?_))
        refine j_goto hx 128 dX12_falls_65 rfl ?_
        exact j_vret hx hq rfl (by decide) (by decide) dX12_falls_128 ⟨rfl, rfl, hS_s5, (zFr_t (zFr_t zFr_rf hF_s4 (by decide)) hF_s5 (by decide)), ⟨by omega, by omega⟩⟩
  · skip
    refine j_aload_n hx 1 dX12_falls_13 rfl ?_
    refine j_iload_n hx 2 dX12_falls_14 rfl ?_
    refine j_callV hx hG (c_X12_next hst a x1) lk_RX12_331 ha (by decide) rfl rfl rfl rfl [.int (zI x1)] ⟨rfl, hG, hS0, ha, (by omega)⟩ rfl rfl ⟨by decide, by decide⟩ ⟨by decide, by decide⟩ (k2 := 0) (n2 := 0) rfl rfl (Nat.le_of_ble_eq_true rfl) dX12_falls_15 (kIP (fun v21 q22 => ?_))
    refine j_istore_n hx [(3, .int (zI v21)), (2, .int (zI ((s0 (gP G a 27) 491)))), (0, .ref a), (1, .int (zI x1))] dX12_falls_18 (by decide) rfl ?_
    refine j_iload_n hx 0 dX12_falls_19 rfl ?_
    refine j_iconst hx dX12_falls_20 ?_
    refine j_icmp_eq hx 35 dX12_falls_21 rfl (by omega) ⟨by decide, by decide⟩ (fun h23 => ?_) (fun h23 => ?_)
    · skip
      refine j_goto hx 128 dX12_falls_35 rfl ?_
      exact j_vret hx hq rfl (by decide) (by decide) dX12_falls_128 ⟨rfl, rfl, hS0, zFr_rf, ⟨by omega, by omega⟩⟩
    · skip
      refine j_iload_n hx 0 dX12_falls_24 rfl ?_
      refine j_iload_n hx 3 dX12_falls_25 rfl ?_
      refine j_icmp_eq hx 35 dX12_falls_26 rfl (by omega) (by omega) (fun h24 => ?_) (fun h24 => ?_)
      · skip
        refine j_goto hx 128 dX12_falls_35 rfl ?_
        exact j_vret hx hq rfl (by decide) (by decide) dX12_falls_128 ⟨rfl, rfl, hS0, zFr_rf, ⟨by omega, by omega⟩⟩
      · skip
        refine j_aload_n hx 2 dX12_falls_29 rfl ?_
        refine j_iload_n hx 3 dX12_falls_30 rfl ?_
        refine j_iload_n hx 0 dX12_falls_31 rfl ?_
        refine j_callV hx hG (c_X12_comesToRow hst a x1 v21) lk_RX12_368 ha (by decide) rfl rfl rfl rfl [.int (zI x1), .int (zI v21)] ⟨rfl, hG, hS0, ha, (by omega), (by omega), (by omega)⟩ rfl rfl ⟨by decide, by decide⟩ ⟨by decide, by decide⟩ (k2 := 0) (n2 := 0) rfl rfl (Nat.le_of_ble_eq_true rfl) dX12_falls_32 (kVM (fun s6 hS_s6 hF_s6 q26 => ?_))
        refine j_goto hx 128 dX12_falls_35 rfl ?_
        exact j_vret hx hq rfl (by decide) (by decide) dX12_falls_128 ⟨rfl, rfl, hS_s6, (zFr_t zFr_rf hF_s6 (by decide)), ⟨by omega, by omega⟩⟩

set_option maxHeartbeats 1200000 in
set_option maxRecDepth 20000 in
theorem c_X12_wins {E : zE} {l : Launch} (hst : l.stackTraces = false) (a : Nat) (x1 : Int) (x2 : Int) : Con E l yX12_wins cX12_wins 6 (some .int) { frames := 3, cells := 0, slots := 0, locals := 70 } (fun G s vs => vs = [.ref a, .int (zI x1), .int (zI x2)] ∧ zGK G ∧ zSK G s ∧ (gT G a = 13) ∧ (0 ≤ x1 ∧ x1 ≤ 2) ∧ (1 ≤ x2 ∧ x2 ≤ 12) ∧ ((x2 = 1 ∨ x2 = 2 ∨ x2 = 12)) ∧ (zc (s (gP G a 27)) ≤ 60)) (fun G s _ => pI (fun r G2 s2 => G2 = G ∧ zSK G s2 ∧ zFr [84] G s s2 ∧ (0 ≤ r ∧ r ≤ 180) ∧ zc (s2 (gP G a 27)) = zc (s (gP G a 27)) ∧ s2 (gP G a 27) 488 = s (gP G a 27) 488)) := by
  refine Con.mk hst (by decide) (fun G s vs h => by rw [h.1]; exact Nat.le_of_ble_eq_true rfl) ?_
  rintro X G s0 vs ⟨rfl, hG, hS0, ha, hx1, hx2, e0, e1⟩ rfl hx hq
  show JJ X E 6 G s0 0 0 [(0, .ref a), (1, .int (zI x1)), (2, .int (zI x2))] 0 []
  rcases (show x2 = 1 ∨ x2 = 2 ∨ x2 = 12 by omega) with rfl | rfl | rfl
  · skip
    refine j_aload_n hx 0 dX12_wins_0 rfl ?_
    refine j_iload_n hx 2 dX12_wins_1 rfl ?_
    refine j_bipush hx dX12_wins_2 rfl ?_
    refine j_idiv hx dX12_wins_4 ⟨by decide, by decide⟩ ⟨by decide, by decide⟩ (by decide) (fun v1 f2 f3 f4 => ?_)
    obtain rfl : v1 = 0 := by omega
    refine j_callV hx hG (c_X12_top hst a 0) lk_RX12_334 ha (by decide) rfl rfl rfl rfl [.int (zI 0)] ⟨rfl, hG, hS0, ha, (by omega)⟩ rfl rfl ⟨by decide, by decide⟩ ⟨by decide, by decide⟩ (k2 := 0) (n2 := 0) rfl rfl (Nat.le_of_ble_eq_true rfl) dX12_wins_5 (kIP (fun v7 q8 => ?_))
    refine j_istore_n hx [(3, .int (zI v7)), (0, .ref a), (1, .int (zI x1)), (2, .int (zI 1))] dX12_wins_8 (by decide) rfl ?_
    refine j_aload_n hx 1 dX12_wins_9 rfl ?_
    refine g13_27 hx hG ha kf_RX12_56 dX12_wins_10 ?_
    refine j_sipush hx dX12_wins_13 rfl ?_
    refine j_iload_n hx 3 dX12_wins_16 rfl ?_
    refine j_bipush hx dX12_wins_17 rfl ?_
    refine j_idiv hx dX12_wins_19 ⟨by decide, by decide⟩ ⟨by decide, by decide⟩ (by decide) (fun v9 f10 f11 f12 => ?_)
    obtain rfl : v9 = 0 := by omega
    refine j_iadd hx (r := 483) dX12_wins_20 (by omega) ?_
    have f15 := zaQ (j := 483) hS0 (zr (k := 27) (t2 := 84) hG ha rfl) (congrArg some (axS_2 483 (by omega))) (zlen hG (zr (k := 27) (t2 := 84) hG ha rfl) (n := 515) rfl rfl) (show 0 ≤ 483 by omega) (by omega) rfl
    have c16 := zc_1 (j := 483) hS0 (zr (k := 27) (t2 := 84) hG ha rfl) (zn hG (zr (k := 27) (t2 := 84) hG ha rfl) rfl) (by omega) (by omega)
    refine j_iald hx hG (zr (k := 27) (t2 := 84) hG ha rfl) (by decide) rfl (zlen hG (zr (k := 27) (t2 := 84) hG ha rfl) (n := 515) rfl rfl) (by omega) (by omega) (j := 483) rfl rfl dX12_wins_21 ?_
    refine j_aload_n hx 1 dX12_wins_22 rfl ?_
    refine g13_27 hx hG ha kf_RX12_56 dX12_wins_23 ?_
    refine j_sipush hx dX12_wins_26 rfl ?_
    refine j_iload_n hx 3 dX12_wins_29 rfl ?_
    refine j_bipush hx dX12_wins_30 rfl ?_
    refine j_irem hx dX12_wins_32 ⟨by decide, by decide⟩ ⟨by decide, by decide⟩ (by decide) (fun v17 f18 f19 f20 f21 => ?_)
    obtain rfl : v17 = 1 := by omega
    refine j_iadd hx (r := 484) dX12_wins_33 (by omega) ?_
    have f23 := zaQ (j := 484) hS0 (zr (k := 27) (t2 := 84) hG ha rfl) (congrArg some (axS_2 484 (by omega))) (zlen hG (zr (k := 27) (t2 := 84) hG ha rfl) (n := 515) rfl rfl) (show 0 ≤ 484 by omega) (by omega) rfl
    have c24 := zc_1 (j := 484) hS0 (zr (k := 27) (t2 := 84) hG ha rfl) (zn hG (zr (k := 27) (t2 := 84) hG ha rfl) rfl) (by omega) (by omega)
    have c25 : 483 ≠ 484 → s0 (gP G a 27) 483 + s0 (gP G a 27) 484 ≤ zc (s0 (gP G a 27)) := fun e => zc_2 hS0 (zr (k := 27) (t2 := 84) hG ha rfl) (zn hG (zr (k := 27) (t2 := 84) hG ha rfl) rfl) (by omega) (by omega) (by omega) (by omega) e
    refine j_iald hx hG (zr (k := 27) (t2 := 84) hG ha rfl) (by decide) rfl (zlen hG (zr (k := 27) (t2 := 84) hG ha rfl) (n := 515) rfl rfl) (by omega) (by omega) (j := 484) rfl rfl dX12_wins_34 ?_
    refine j_iadd hx (r := (s0 (gP G a 27) 483) + (s0 (gP G a 27) 484)) dX12_wins_35 (by omega) ?_
    refine j_istore hx [(4, .int (zI ((s0 (gP G a 27) 483) + (s0 (gP G a 27) 484)))), (3, .int (zI v7)), (0, .ref a), (1, .int (zI x1)), (2, .int (zI 1))] dX12_wins_36 (by decide) rfl ?_
    refine j_aload_n hx 2 dX12_wins_38 rfl ?_
    refine j_iload_n hx 4 dX12_wins_39 rfl ?_
    refine j_bipush hx dX12_wins_40 rfl ?_
    refine j_idiv hx dX12_wins_42 ⟨by decide, by decide⟩ ⟨by decide, by decide⟩ (by decide) (fun v26 f27 f28 f29 => ?_)
    obtain rfl : v26 = 0 := by omega
    refine j_iload_n hx 3 dX12_wins_43 rfl ?_
    refine j_callV hx hG (c_X12_comesToRow hst a 0 x1) lk_RX12_368 ha (by decide) rfl rfl rfl rfl [.int (zI 0), .int (zI x1)] ⟨rfl, hG, hS0, ha, (by omega), (by omega), (by omega)⟩ rfl rfl ⟨by decide, by decide⟩ ⟨by decide, by decide⟩ (k2 := 0) (n2 := 0) rfl rfl (Nat.le_of_ble_eq_true rfl) dX12_wins_44 (kVM (fun s1 hS_s1 hF_s1 q33 => ?_))
    refine j_aload_n hx 2 dX12_wins_47 rfl ?_
    refine j_iload_n hx 4 dX12_wins_48 rfl ?_
    refine j_bipush hx dX12_wins_49 rfl ?_
    refine j_irem hx dX12_wins_51 ⟨by decide, by decide⟩ ⟨by decide, by decide⟩ (by decide) (fun v34 f35 f36 f37 f38 => ?_)
    obtain rfl : v34 = 1 := by omega
    refine j_iload_n hx 3 dX12_wins_52 rfl ?_
    refine j_callV hx hG (c_X12_comesToRow hst a 1 x1) lk_RX12_368 ha (by decide) rfl rfl rfl rfl [.int (zI 1), .int (zI x1)] ⟨rfl, hG, hS_s1, ha, (by omega), (by omega), (by omega)⟩ rfl rfl ⟨by decide, by decide⟩ ⟨by decide, by decide⟩ (k2 := 0) (n2 := 0) rfl rfl (Nat.le_of_ble_eq_true rfl) dX12_wins_53 (kVM (fun s2 hS_s2 hF_s2 q41 => ?_))
    refine j_aload_n hx 2 dX12_wins_56 rfl ?_
    refine g13_27 hx hG ha kf_RX12_56 dX12_wins_57 ?_
    refine j_sipush hx dX12_wins_60 rfl ?_
    have f42 := zaQ (j := 486) hS_s2 (zr (k := 27) (t2 := 84) hG ha rfl) (congrArg some (axS_2 486 (by omega))) (zlen hG (zr (k := 27) (t2 := 84) hG ha rfl) (n := 515) rfl rfl) (show 0 ≤ 486 by omega) (by omega) rfl
    have c43 := zc_1 (j := 486) hS_s2 (zr (k := 27) (t2 := 84) hG ha rfl) (zn hG (zr (k := 27) (t2 := 84) hG ha rfl) rfl) (by omega) (by omega)
    refine j_iald hx hG (zr (k := 27) (t2 := 84) hG ha rfl) (by decide) rfl (zlen hG (zr (k := 27) (t2 := 84) hG ha rfl) (n := 515) rfl rfl) (by omega) (by omega) (j := 486) rfl rfl dX12_wins_63 ?_
    have c124_3 : ∀ (v44 : Int), (0 ≤ v44 ∧ v44 ≤ 1) → JJ X E 6 G s2 0 0 [(0, .ref a), (1, .int (zI x1)), (4, .int (zI ((s0 (gP G a 27) 483) + (s0 (gP G a 27) 484))))] 124 [.int (zI v44)] := by
      intro v44 fA4
      refine j_istore hx [(5, .int (zI v44)), (0, .ref a), (1, .int (zI x1)), (4, .int (zI ((s0 (gP G a 27) 483) + (s0 (gP G a 27) 484))))] dX12_wins_124 (by decide) rfl ?_
      refine j_iload hx 0 dX12_wins_126 rfl ?_
      refine j_if_ne hx 134 dX12_wins_128 rfl (by omega) (fun h45 => ?_) (fun h45 => ?_)
      · skip
        refine j_iload hx 3 dX12_wins_134 rfl ?_
        refine j_aload_n hx 1 dX12_wins_136 rfl ?_
        refine g13_27 hx hG ha kf_RX12_56 dX12_wins_137 ?_
        refine j_sipush hx dX12_wins_140 rfl ?_
        refine j_iald hx hG (zr (k := 27) (t2 := 84) hG ha rfl) (by decide) rfl (zlen hG (zr (k := 27) (t2 := 84) hG ha rfl) (n := 515) rfl rfl) (by omega) (by omega) (j := 486) rfl rfl dX12_wins_143 ?_
        refine j_iadd hx (r := (s0 (gP G a 27) 483) + (s0 (gP G a 27) 484) + (s2 (gP G a 27) 486)) dX12_wins_144 (by omega) ?_
        refine j_istore hx [(4, .int (zI ((s0 (gP G a 27) 483) + (s0 (gP G a 27) 484) + (s2 (gP G a 27) 486)))), (5, .int (zI v44)), (0, .ref a), (1, .int (zI x1))] dX12_wins_145 (by decide) rfl ?_
        refine j_aload_n hx 2 dX12_wins_147 rfl ?_
        refine j_sipush hx dX12_wins_148 rfl ?_
        refine j_sipush hx dX12_wins_151 rfl ?_
        refine j_iconst hx dX12_wins_154 ?_
        refine j_bipush hx dX12_wins_155 rfl ?_
        refine j_iload_n hx 3 dX12_wins_157 rfl ?_
        refine j_imul hx (r := 60 * x1) dX12_wins_158 rfl ?_
        refine j_iadd hx (r := 60 * x1) dX12_wins_159 (by omega) ?_
        refine j_sipush hx dX12_wins_160 rfl ?_
        refine j_iload_n hx 3 dX12_wins_163 rfl ?_
        refine j_iadd hx (r := x1 + 480) dX12_wins_164 (by omega) ?_
        have g46 : s2 (gP G a 27) (Int.toNat 486) = s2 (gP G a 27) 486 := rfl
        refine j_callV hx hG (c_X12_take hst a 360 486 (60 * x1) (x1 + 480)) lk_RX12_361 ha (by decide) rfl rfl rfl rfl [.int (zI 360), .int (zI 486), .int (zI (60 * x1)), .int (zI (x1 + 480))] ⟨rfl, hG, hS_s2, ha, (by omega), (by omega), (by omega), (by omega), (by omega), (by omega)⟩ rfl rfl ⟨by decide, by decide⟩ ⟨by decide, by decide⟩ (k2 := 0) (n2 := 0) rfl rfl (Nat.le_of_ble_eq_true rfl) dX12_wins_165 (kVM (fun s5 hS_s5 hF_s5 q48 => ?_))
        refine j_aload_n hx 2 dX12_wins_168 rfl ?_
        refine g13_27 hx hG ha kf_RX12_56 dX12_wins_169 ?_
        refine j_sipush hx dX12_wins_172 rfl ?_
        refine j_iload_n hx 3 dX12_wins_175 rfl ?_
        refine j_iadd hx (r := x1 + 480) dX12_wins_176 (by omega) ?_
        refine j_dup2 hx dX12_wins_177 rfl rfl ?_
        have f49 := zaQ (j := (x1 + 480).toNat) hS_s5 (zr (k := 27) (t2 := 84) hG ha rfl) (congrArg some (axS_2 (x1 + 480).toNat (by omega))) (zlen hG (zr (k := 27) (t2 := 84) hG ha rfl) (n := 515) rfl rfl) (show 0 ≤ x1 + 480 by omega) (by omega) rfl
        have c50 := zc_1 (j := (x1 + 480).toNat) hS_s5 (zr (k := 27) (t2 := 84) hG ha rfl) (zn hG (zr (k := 27) (t2 := 84) hG ha rfl) rfl) (by omega) (by omega)
        refine j_iald hx hG (zr (k := 27) (t2 := 84) hG ha rfl) (by decide) rfl (zlen hG (zr (k := 27) (t2 := 84) hG ha rfl) (n := 515) rfl rfl) (by omega) (by omega) (j := (x1 + 480).toNat) rfl rfl dX12_wins_178 ?_
        refine j_aload_n hx 2 dX12_wins_179 rfl ?_
        refine g13_27 hx hG ha kf_RX12_56 dX12_wins_180 ?_
        refine j_sipush hx dX12_wins_183 rfl ?_
        have f51 := zaQ (j := 486) hS_s5 (zr (k := 27) (t2 := 84) hG ha rfl) (congrArg some (axS_2 486 (by omega))) (zlen hG (zr (k := 27) (t2 := 84) hG ha rfl) (n := 515) rfl rfl) (show 0 ≤ 486 by omega) (by omega) rfl
        have c52 := zc_1 (j := 486) hS_s5 (zr (k := 27) (t2 := 84) hG ha rfl) (zn hG (zr (k := 27) (t2 := 84) hG ha rfl) rfl) (by omega) (by omega)
        have c53 : (x1 + 480).toNat ≠ 486 → s5 (gP G a 27) (x1 + 480).toNat + s5 (gP G a 27) 486 ≤ zc (s5 (gP G a 27)) := fun e => zc_2 hS_s5 (zr (k := 27) (t2 := 84) hG ha rfl) (zn hG (zr (k := 27) (t2 := 84) hG ha rfl) rfl) (by omega) (by omega) (by omega) (by omega) e
        refine j_iald hx hG (zr (k := 27) (t2 := 84) hG ha rfl) (by decide) rfl (zlen hG (zr (k := 27) (t2 := 84) hG ha rfl) (n := 515) rfl rfl) (by omega) (by omega) (j := 486) rfl rfl dX12_wins_186 ?_
        refine j_iadd hx (r := (s5 (gP G a 27) (x1 + 480).toNat) + (s5 (gP G a 27) 486)) dX12_wins_187 (by omega) ?_
        refine j_iast hx hG (zr (k := 27) (t2 := 84) hG ha rfl) (by decide) rfl (zlen hG (zr (k := 27) (t2 := 84) hG ha rfl) (n := 515) rfl rfl) (by omega) (by omega) (j := (x1 + 480).toNat) rfl dX12_wins_188 ?_
        obtain ⟨s6, e_s6⟩ : ∃ z, z = zU s5 (gP G a 27) (x1 + 480).toNat ((s5 (gP G a 27) (x1 + 480).toNat) + (s5 (gP G a 27) 486)) := ⟨_, rfl⟩
        rw [← e_s6]
        have hS_s6 : zSK G s6 := by rw [e_s6]; exact zSK_a hS_s5 (zr (k := 27) (t2 := 84) hG ha rfl) rfl rfl (congrArg some (axS_2 (x1 + 480).toNat (by omega))) (by omega)
        have g55 : s6 (gP G a 27) (x1 + 480).toNat = (s5 (gP G a 27) (x1 + 480).toNat) + (s5 (gP G a 27) 486) := (by rw [e_s6, zU_eq])
        have z54 : zc (s6 (gP G a 27)) = zc (s5 (gP G a 27)) - s5 (gP G a 27) (x1 + 480).toNat + s6 (gP G a 27) (x1 + 480).toNat := by rw [e_s6, zU_eq]; exact zc_w (by omega) (by omega)
        refine j_aload_n hx 2 dX12_wins_189 rfl ?_
        refine g13_27 hx hG ha kf_RX12_56 dX12_wins_190 ?_
        refine j_sipush hx dX12_wins_193 rfl ?_
        refine j_iconst hx dX12_wins_196 ?_
        refine j_iast hx hG (zr (k := 27) (t2 := 84) hG ha rfl) (by decide) rfl (zlen hG (zr (k := 27) (t2 := 84) hG ha rfl) (n := 515) rfl rfl) (by omega) (by omega) (j := 486) rfl dX12_wins_197 ?_
        obtain ⟨s7, e_s7⟩ : ∃ z, z = zU s6 (gP G a 27) 486 0 := ⟨_, rfl⟩
        rw [← e_s7]
        have hS_s7 : zSK G s7 := by rw [e_s7]; exact zSK_a hS_s6 (zr (k := 27) (t2 := 84) hG ha rfl) rfl rfl (congrArg some (axS_2 486 (by omega))) (by omega)
        have g57 : s6 (gP G a 27) 486 = s5 (gP G a 27) 486 := (by rw [e_s6, zU_at (Or.inr (by omega))])
        have g58 : s7 (gP G a 27) 486 = 0 := (by rw [e_s7, zU_eq])
        have z56 : zc (s7 (gP G a 27)) = zc (s6 (gP G a 27)) - s6 (gP G a 27) 486 + s7 (gP G a 27) 486 := by rw [e_s7, zU_eq]; exact zc_w (by omega) (by omega)
        refine j_iload hx 0 dX12_wins_198 rfl ?_
        have g59 : s7 (gP G a 27) 488 = s5 (gP G a 27) 488 := (by rw [e_s7, zU_at (Or.inr (by decide)), e_s6, zU_at (Or.inr (by omega))])
        exact j_iret hx hq rfl (by decide) (by decide) dX12_wins_200 ⟨(s0 (gP G a 27) 483) + (s0 (gP G a 27) 484) + (s2 (gP G a 27) 486), rfl, rfl, hS_s7, (zFr_u (zFr_u (zFr_t (zFr_t (zFr_t zFr_rf hF_s1 (by decide)) hF_s2 (by decide)) hF_s5 (by decide)) e_s6 (zr (k := 27) (t2 := 84) hG ha rfl) (by decide)) e_s7 (zr (k := 27) (t2 := 84) hG ha rfl) (by decide)), ⟨(by omega), by omega, by omega⟩⟩
      · skip
        refine j_iload hx 3 dX12_wins_131 rfl ?_
        exact j_iret hx hq rfl (by decide) (by decide) dX12_wins_133 ⟨(s0 (gP G a 27) 483) + (s0 (gP G a 27) 484), rfl, rfl, hS_s2, (zFr_t (zFr_t zFr_rf hF_s1 (by decide)) hF_s2 (by decide)), ⟨(by omega), by omega, by omega⟩⟩
    have c123_8 : JJ X E 6 G s2 0 0 [(0, .ref a), (1, .int (zI x1)), (4, .int (zI ((s0 (gP G a 27) 483) + (s0 (gP G a 27) 484))))] 123 [] := by
      refine j_iconst hx dX12_wins_123 ?_
      exact j_sub [0, 1, 2] [(0, .ref a), (1, .int (zI x1)), (4, .int (zI ((s0 (gP G a 27) 483) + (s0 (gP G a 27) 484))))] rfl (c124_3 0 (by omega))
    refine j_if_le hx 123 dX12_wins_64 rfl (by omega) (fun h60 => ?_) (fun h60 => ?_)
    · skip
      exact j_sub [2, 3, 0] [(0, .ref a), (1, .int (zI x1)), (4, .int (zI ((s0 (gP G a 27) 483) + (s0 (gP G a 27) 484))))] rfl (c123_8  )
    · skip
      refine j_aload_n hx 2 dX12_wins_67 rfl ?_
      refine g13_27 hx hG ha kf_RX12_56 dX12_wins_68 ?_
      refine j_sipush hx dX12_wins_71 rfl ?_
      have f61 := zaQ (j := 493) hS_s2 (zr (k := 27) (t2 := 84) hG ha rfl) (congrArg some (axS_7 493 (by omega))) (zlen hG (zr (k := 27) (t2 := 84) hG ha rfl) (n := 515) rfl rfl) (show 0 ≤ 493 by omega) (by omega) rfl
      refine j_iald hx hG (zr (k := 27) (t2 := 84) hG ha rfl) (by decide) rfl (zlen hG (zr (k := 27) (t2 := 84) hG ha rfl) (n := 515) rfl rfl) (by omega) (by omega) (j := 493) rfl rfl dX12_wins_74 ?_
      refine j_iconst hx dX12_wins_75 ?_
      have c119_9 : JJ X E 6 G s2 0 0 [(0, .ref a), (1, .int (zI x1)), (4, .int (zI ((s0 (gP G a 27) 483) + (s0 (gP G a 27) 484))))] 119 [] := by
        refine j_iconst hx dX12_wins_119 ?_
        refine j_goto hx 124 dX12_wins_120 rfl ?_
        exact j_sub [0, 1, 2] [(0, .ref a), (1, .int (zI x1)), (4, .int (zI ((s0 (gP G a 27) 483) + (s0 (gP G a 27) 484))))] rfl (c124_3 1 (by omega))
      refine j_icmp_eq hx 119 dX12_wins_76 rfl (by omega) ⟨by decide, by decide⟩ (fun h62 => ?_) (fun h62 => ?_)
      · skip
        exact j_sub [2, 3, 0] [(0, .ref a), (1, .int (zI x1)), (4, .int (zI ((s0 (gP G a 27) 483) + (s0 (gP G a 27) 484))))] rfl (c119_9  )
      · skip
        refine j_aload_n hx 2 dX12_wins_79 rfl ?_
        refine g13_27 hx hG ha kf_RX12_56 dX12_wins_80 ?_
        refine j_sipush hx dX12_wins_83 rfl ?_
        refine j_iald hx hG (zr (k := 27) (t2 := 84) hG ha rfl) (by decide) rfl (zlen hG (zr (k := 27) (t2 := 84) hG ha rfl) (n := 515) rfl rfl) (by omega) (by omega) (j := 493) rfl rfl dX12_wins_86 ?_
        refine j_iconst hx dX12_wins_87 ?_
        refine j_icmp_ne hx 123 dX12_wins_88 rfl (by omega) ⟨by decide, by decide⟩ (fun h63 => ?_) (fun h63 => ?_)
        · skip
          exact j_sub [2, 3, 0] [(0, .ref a), (1, .int (zI x1)), (4, .int (zI ((s0 (gP G a 27) 483) + (s0 (gP G a 27) 484))))] rfl (c123_8  )
        · skip
          refine j_aload_n hx 2 dX12_wins_91 rfl ?_
          refine g13_19 hx hG ha kf_RX12_50 dX12_wins_92 ?_
          refine j_aload_n hx 2 dX12_wins_95 rfl ?_
          refine g13_27 hx hG ha kf_RX12_56 dX12_wins_96 ?_
          refine j_sipush hx dX12_wins_99 rfl ?_
          refine j_aload_n hx 2 dX12_wins_102 rfl ?_
          refine g13_27 hx hG ha kf_RX12_56 dX12_wins_103 ?_
          refine j_sipush hx dX12_wins_106 rfl ?_
          refine j_iald hx hG (zr (k := 27) (t2 := 84) hG ha rfl) (by decide) rfl (zlen hG (zr (k := 27) (t2 := 84) hG ha rfl) (n := 515) rfl rfl) (by omega) (by omega) (j := 486) rfl rfl dX12_wins_109 ?_
          refine j_iadd hx (r := (s2 (gP G a 27) 486) + 360) dX12_wins_110 (by omega) ?_
          refine j_iconst hx dX12_wins_111 ?_
          refine j_isub hx (r := (s2 (gP G a 27) 486) + 359) dX12_wins_112 (by omega) ?_
          have f64 := zaQ (j := ((s2 (gP G a 27) 486) + 359).toNat) hS_s2 (zr (k := 27) (t2 := 84) hG ha rfl) (congrArg some (axS_0 ((s2 (gP G a 27) 486) + 359).toNat (by omega))) (zlen hG (zr (k := 27) (t2 := 84) hG ha rfl) (n := 515) rfl rfl) (show 0 ≤ (s2 (gP G a 27) 486) + 359 by omega) (by omega) rfl
          refine j_iald hx hG (zr (k := 27) (t2 := 84) hG ha rfl) (by decide) rfl (zlen hG (zr (k := 27) (t2 := 84) hG ha rfl) (n := 515) rfl rfl) (by omega) (by omega) (j := ((s2 (gP G a 27) 486) + 359).toNat) rfl rfl dX12_wins_113 ?_
          have f65 := zaI (j := ((s2 (gP G a 27) ((s2 (gP G a 27) 486) + 359).toNat)).toNat) hS0 (zr (k := 19) (t2 := 82) hG ha rfl) rfl (zlen hG (zr (k := 19) (t2 := 82) hG ha rfl) (n := 60) rfl rfl) (show 0 ≤ (s2 (gP G a 27) ((s2 (gP G a 27) 486) + 359).toNat) by omega) (by omega) rfl
          refine j_iald hx hG (zr (k := 19) (t2 := 82) hG ha rfl) (by decide) rfl (zlen hG (zr (k := 19) (t2 := 82) hG ha rfl) (n := 60) rfl rfl) (by omega) (by omega) (j := ((s2 (gP G a 27) ((s2 (gP G a 27) 486) + 359).toNat)).toNat) rfl (v := (s0 (gP G a 19) ((s2 (gP G a 27) ((s2 (gP G a 27) 486) + 359).toNat)).toNat)) (by rw [(zFr_g hF_s2 (zr (k := 19) (t2 := 82) hG ha rfl) (by decide)), (zFr_g hF_s1 (zr (k := 19) (t2 := 82) hG ha rfl) (by decide))]) dX12_wins_114 ?_
          refine j_iload_n hx 1 dX12_wins_115 rfl ?_
          refine j_icmp_ne hx 123 dX12_wins_116 rfl (by omega) (by omega) (fun h66 => ?_) (fun h66 => ?_)
          · skip
            exact j_sub [2, 3, 0] [(0, .ref a), (1, .int (zI x1)), (4, .int (zI ((s0 (gP G a 27) 483) + (s0 (gP G a 27) 484))))] rfl (c123_8  )
          · skip
            exact j_sub [2, 3, 0] [(0, .ref a), (1, .int (zI x1)), (4, .int (zI ((s0 (gP G a 27) 483) + (s0 (gP G a 27) 484))))] rfl (c119_9  )
  · skip
    refine j_aload_n hx 0 dX12_wins_0 rfl ?_
    refine j_iload_n hx 2 dX12_wins_1 rfl ?_
    refine j_bipush hx dX12_wins_2 rfl ?_
    refine j_idiv hx dX12_wins_4 ⟨by decide, by decide⟩ ⟨by decide, by decide⟩ (by decide) (fun v67 f68 f69 f70 => ?_)
    obtain rfl : v67 = 0 := by omega
    refine j_callV hx hG (c_X12_top hst a 0) lk_RX12_334 ha (by decide) rfl rfl rfl rfl [.int (zI 0)] ⟨rfl, hG, hS0, ha, (by omega)⟩ rfl rfl ⟨by decide, by decide⟩ ⟨by decide, by decide⟩ (k2 := 0) (n2 := 0) rfl rfl (Nat.le_of_ble_eq_true rfl) dX12_wins_5 (kIP (fun v73 q74 => ?_))
    refine j_istore_n hx [(3, .int (zI v73)), (0, .ref a), (1, .int (zI x1)), (2, .int (zI 2))] dX12_wins_8 (by decide) rfl ?_
    refine j_aload_n hx 1 dX12_wins_9 rfl ?_
    refine g13_27 hx hG ha kf_RX12_56 dX12_wins_10 ?_
    refine j_sipush hx dX12_wins_13 rfl ?_
    refine j_iload_n hx 3 dX12_wins_16 rfl ?_
    refine j_bipush hx dX12_wins_17 rfl ?_
    refine j_idiv hx dX12_wins_19 ⟨by decide, by decide⟩ ⟨by decide, by decide⟩ (by decide) (fun v75 f76 f77 f78 => ?_)
    obtain rfl : v75 = 0 := by omega
    refine j_iadd hx (r := 483) dX12_wins_20 (by omega) ?_
    have f81 := zaQ (j := 483) hS0 (zr (k := 27) (t2 := 84) hG ha rfl) (congrArg some (axS_2 483 (by omega))) (zlen hG (zr (k := 27) (t2 := 84) hG ha rfl) (n := 515) rfl rfl) (show 0 ≤ 483 by omega) (by omega) rfl
    have c82 := zc_1 (j := 483) hS0 (zr (k := 27) (t2 := 84) hG ha rfl) (zn hG (zr (k := 27) (t2 := 84) hG ha rfl) rfl) (by omega) (by omega)
    refine j_iald hx hG (zr (k := 27) (t2 := 84) hG ha rfl) (by decide) rfl (zlen hG (zr (k := 27) (t2 := 84) hG ha rfl) (n := 515) rfl rfl) (by omega) (by omega) (j := 483) rfl rfl dX12_wins_21 ?_
    refine j_aload_n hx 1 dX12_wins_22 rfl ?_
    refine g13_27 hx hG ha kf_RX12_56 dX12_wins_23 ?_
    refine j_sipush hx dX12_wins_26 rfl ?_
    refine j_iload_n hx 3 dX12_wins_29 rfl ?_
    refine j_bipush hx dX12_wins_30 rfl ?_
    refine j_irem hx dX12_wins_32 ⟨by decide, by decide⟩ ⟨by decide, by decide⟩ (by decide) (fun v83 f84 f85 f86 f87 => ?_)
    obtain rfl : v83 = 2 := by omega
    refine j_iadd hx (r := 485) dX12_wins_33 (by omega) ?_
    have f89 := zaQ (j := 485) hS0 (zr (k := 27) (t2 := 84) hG ha rfl) (congrArg some (axS_2 485 (by omega))) (zlen hG (zr (k := 27) (t2 := 84) hG ha rfl) (n := 515) rfl rfl) (show 0 ≤ 485 by omega) (by omega) rfl
    have c90 := zc_1 (j := 485) hS0 (zr (k := 27) (t2 := 84) hG ha rfl) (zn hG (zr (k := 27) (t2 := 84) hG ha rfl) rfl) (by omega) (by omega)
    have c91 : 483 ≠ 485 → s0 (gP G a 27) 483 + s0 (gP G a 27) 485 ≤ zc (s0 (gP G a 27)) := fun e => zc_2 hS0 (zr (k := 27) (t2 := 84) hG ha rfl) (zn hG (zr (k := 27) (t2 := 84) hG ha rfl) rfl) (by omega) (by omega) (by omega) (by omega) e
    refine j_iald hx hG (zr (k := 27) (t2 := 84) hG ha rfl) (by decide) rfl (zlen hG (zr (k := 27) (t2 := 84) hG ha rfl) (n := 515) rfl rfl) (by omega) (by omega) (j := 485) rfl rfl dX12_wins_34 ?_
    refine j_iadd hx (r := (s0 (gP G a 27) 483) + (s0 (gP G a 27) 485)) dX12_wins_35 (by omega) ?_
    refine j_istore hx [(4, .int (zI ((s0 (gP G a 27) 483) + (s0 (gP G a 27) 485)))), (3, .int (zI v73)), (0, .ref a), (1, .int (zI x1)), (2, .int (zI 2))] dX12_wins_36 (by decide) rfl ?_
    refine j_aload_n hx 2 dX12_wins_38 rfl ?_
    refine j_iload_n hx 4 dX12_wins_39 rfl ?_
    refine j_bipush hx dX12_wins_40 rfl ?_
    refine j_idiv hx dX12_wins_42 ⟨by decide, by decide⟩ ⟨by decide, by decide⟩ (by decide) (fun v92 f93 f94 f95 => ?_)
    obtain rfl : v92 = 0 := by omega
    refine j_iload_n hx 3 dX12_wins_43 rfl ?_
    refine j_callV hx hG (c_X12_comesToRow hst a 0 x1) lk_RX12_368 ha (by decide) rfl rfl rfl rfl [.int (zI 0), .int (zI x1)] ⟨rfl, hG, hS0, ha, (by omega), (by omega), (by omega)⟩ rfl rfl ⟨by decide, by decide⟩ ⟨by decide, by decide⟩ (k2 := 0) (n2 := 0) rfl rfl (Nat.le_of_ble_eq_true rfl) dX12_wins_44 (kVM (fun s10 hS_s10 hF_s10 q99 => ?_))
    refine j_aload_n hx 2 dX12_wins_47 rfl ?_
    refine j_iload_n hx 4 dX12_wins_48 rfl ?_
    refine j_bipush hx dX12_wins_49 rfl ?_
    refine j_irem hx dX12_wins_51 ⟨by decide, by decide⟩ ⟨by decide, by decide⟩ (by decide) (fun v100 f101 f102 f103 f104 => ?_)
    obtain rfl : v100 = 2 := by omega
    refine j_iload_n hx 3 dX12_wins_52 rfl ?_
    refine j_callV hx hG (c_X12_comesToRow hst a 2 x1) lk_RX12_368 ha (by decide) rfl rfl rfl rfl [.int (zI 2), .int (zI x1)] ⟨rfl, hG, hS_s10, ha, (by omega), (by omega), (by omega)⟩ rfl rfl ⟨by decide, by decide⟩ ⟨by decide, by decide⟩ (k2 := 0) (n2 := 0) rfl rfl (Nat.le_of_ble_eq_true rfl) dX12_wins_53 (kVM (fun s11 hS_s11 hF_s11 q107 => ?_))
    refine j_aload_n hx 2 dX12_wins_56 rfl ?_
    refine g13_27 hx hG ha kf_RX12_56 dX12_wins_57 ?_
    refine j_sipush hx dX12_wins_60 rfl ?_
    have f108 := zaQ (j := 486) hS_s11 (zr (k := 27) (t2 := 84) hG ha rfl) (congrArg some (axS_2 486 (by omega))) (zlen hG (zr (k := 27) (t2 := 84) hG ha rfl) (n := 515) rfl rfl) (show 0 ≤ 486 by omega) (by omega) rfl
    have c109 := zc_1 (j := 486) hS_s11 (zr (k := 27) (t2 := 84) hG ha rfl) (zn hG (zr (k := 27) (t2 := 84) hG ha rfl) rfl) (by omega) (by omega)
    refine j_iald hx hG (zr (k := 27) (t2 := 84) hG ha rfl) (by decide) rfl (zlen hG (zr (k := 27) (t2 := 84) hG ha rfl) (n := 515) rfl rfl) (by omega) (by omega) (j := 486) rfl rfl dX12_wins_63 ?_
    have c124_12 : ∀ (v110 : Int), (0 ≤ v110 ∧ v110 ≤ 1) → JJ X E 6 G s11 0 0 [(0, .ref a), (1, .int (zI x1)), (4, .int (zI ((s0 (gP G a 27) 483) + (s0 (gP G a 27) 485))))] 124 [.int (zI v110)] := by
      intro v110 fA13
      refine j_istore hx [(5, .int (zI v110)), (0, .ref a), (1, .int (zI x1)), (4, .int (zI ((s0 (gP G a 27) 483) + (s0 (gP G a 27) 485))))] dX12_wins_124 (by decide) rfl ?_
      refine j_iload hx 0 dX12_wins_126 rfl ?_
      refine j_if_ne hx 134 dX12_wins_128 rfl (by omega) (fun h111 => ?_) (fun h111 => ?_)
      · skip
        refine j_iload hx 3 dX12_wins_134 rfl ?_
        refine j_aload_n hx 1 dX12_wins_136 rfl ?_
        refine g13_27 hx hG ha kf_RX12_56 dX12_wins_137 ?_
        refine j_sipush hx dX12_wins_140 rfl ?_
        refine j_iald hx hG (zr (k := 27) (t2 := 84) hG ha rfl) (by decide) rfl (zlen hG (zr (k := 27) (t2 := 84) hG ha rfl) (n := 515) rfl rfl) (by omega) (by omega) (j := 486) rfl rfl dX12_wins_143 ?_
        refine j_iadd hx (r := (s0 (gP G a 27) 483) + (s0 (gP G a 27) 485) + (s11 (gP G a 27) 486)) dX12_wins_144 (by omega) ?_
        refine j_istore hx [(4, .int (zI ((s0 (gP G a 27) 483) + (s0 (gP G a 27) 485) + (s11 (gP G a 27) 486)))), (5, .int (zI v110)), (0, .ref a), (1, .int (zI x1))] dX12_wins_145 (by decide) rfl ?_
        refine j_aload_n hx 2 dX12_wins_147 rfl ?_
        refine j_sipush hx dX12_wins_148 rfl ?_
        refine j_sipush hx dX12_wins_151 rfl ?_
        refine j_iconst hx dX12_wins_154 ?_
        refine j_bipush hx dX12_wins_155 rfl ?_
        refine j_iload_n hx 3 dX12_wins_157 rfl ?_
        refine j_imul hx (r := 60 * x1) dX12_wins_158 rfl ?_
        refine j_iadd hx (r := 60 * x1) dX12_wins_159 (by omega) ?_
        refine j_sipush hx dX12_wins_160 rfl ?_
        refine j_iload_n hx 3 dX12_wins_163 rfl ?_
        refine j_iadd hx (r := x1 + 480) dX12_wins_164 (by omega) ?_
        have g112 : s11 (gP G a 27) (Int.toNat 486) = s11 (gP G a 27) 486 := rfl
        refine j_callV hx hG (c_X12_take hst a 360 486 (60 * x1) (x1 + 480)) lk_RX12_361 ha (by decide) rfl rfl rfl rfl [.int (zI 360), .int (zI 486), .int (zI (60 * x1)), .int (zI (x1 + 480))] ⟨rfl, hG, hS_s11, ha, (by omega), (by omega), (by omega), (by omega), (by omega), (by omega)⟩ rfl rfl ⟨by decide, by decide⟩ ⟨by decide, by decide⟩ (k2 := 0) (n2 := 0) rfl rfl (Nat.le_of_ble_eq_true rfl) dX12_wins_165 (kVM (fun s14 hS_s14 hF_s14 q114 => ?_))
        refine j_aload_n hx 2 dX12_wins_168 rfl ?_
        refine g13_27 hx hG ha kf_RX12_56 dX12_wins_169 ?_
        refine j_sipush hx dX12_wins_172 rfl ?_
        refine j_iload_n hx 3 dX12_wins_175 rfl ?_
        refine j_iadd hx (r := x1 + 480) dX12_wins_176 (by omega) ?_
        refine j_dup2 hx dX12_wins_177 rfl rfl ?_
        have f115 := zaQ (j := (x1 + 480).toNat) hS_s14 (zr (k := 27) (t2 := 84) hG ha rfl) (congrArg some (axS_2 (x1 + 480).toNat (by omega))) (zlen hG (zr (k := 27) (t2 := 84) hG ha rfl) (n := 515) rfl rfl) (show 0 ≤ x1 + 480 by omega) (by omega) rfl
        have c116 := zc_1 (j := (x1 + 480).toNat) hS_s14 (zr (k := 27) (t2 := 84) hG ha rfl) (zn hG (zr (k := 27) (t2 := 84) hG ha rfl) rfl) (by omega) (by omega)
        refine j_iald hx hG (zr (k := 27) (t2 := 84) hG ha rfl) (by decide) rfl (zlen hG (zr (k := 27) (t2 := 84) hG ha rfl) (n := 515) rfl rfl) (by omega) (by omega) (j := (x1 + 480).toNat) rfl rfl dX12_wins_178 ?_
        refine j_aload_n hx 2 dX12_wins_179 rfl ?_
        refine g13_27 hx hG ha kf_RX12_56 dX12_wins_180 ?_
        refine j_sipush hx dX12_wins_183 rfl ?_
        have f117 := zaQ (j := 486) hS_s14 (zr (k := 27) (t2 := 84) hG ha rfl) (congrArg some (axS_2 486 (by omega))) (zlen hG (zr (k := 27) (t2 := 84) hG ha rfl) (n := 515) rfl rfl) (show 0 ≤ 486 by omega) (by omega) rfl
        have c118 := zc_1 (j := 486) hS_s14 (zr (k := 27) (t2 := 84) hG ha rfl) (zn hG (zr (k := 27) (t2 := 84) hG ha rfl) rfl) (by omega) (by omega)
        have c119 : (x1 + 480).toNat ≠ 486 → s14 (gP G a 27) (x1 + 480).toNat + s14 (gP G a 27) 486 ≤ zc (s14 (gP G a 27)) := fun e => zc_2 hS_s14 (zr (k := 27) (t2 := 84) hG ha rfl) (zn hG (zr (k := 27) (t2 := 84) hG ha rfl) rfl) (by omega) (by omega) (by omega) (by omega) e
        refine j_iald hx hG (zr (k := 27) (t2 := 84) hG ha rfl) (by decide) rfl (zlen hG (zr (k := 27) (t2 := 84) hG ha rfl) (n := 515) rfl rfl) (by omega) (by omega) (j := 486) rfl rfl dX12_wins_186 ?_
        refine j_iadd hx (r := (s14 (gP G a 27) (x1 + 480).toNat) + (s14 (gP G a 27) 486)) dX12_wins_187 (by omega) ?_
        refine j_iast hx hG (zr (k := 27) (t2 := 84) hG ha rfl) (by decide) rfl (zlen hG (zr (k := 27) (t2 := 84) hG ha rfl) (n := 515) rfl rfl) (by omega) (by omega) (j := (x1 + 480).toNat) rfl dX12_wins_188 ?_
        obtain ⟨s15, e_s15⟩ : ∃ z, z = zU s14 (gP G a 27) (x1 + 480).toNat ((s14 (gP G a 27) (x1 + 480).toNat) + (s14 (gP G a 27) 486)) := ⟨_, rfl⟩
        rw [← e_s15]
        have hS_s15 : zSK G s15 := by rw [e_s15]; exact zSK_a hS_s14 (zr (k := 27) (t2 := 84) hG ha rfl) rfl rfl (congrArg some (axS_2 (x1 + 480).toNat (by omega))) (by omega)
        have g121 : s15 (gP G a 27) (x1 + 480).toNat = (s14 (gP G a 27) (x1 + 480).toNat) + (s14 (gP G a 27) 486) := (by rw [e_s15, zU_eq])
        have z120 : zc (s15 (gP G a 27)) = zc (s14 (gP G a 27)) - s14 (gP G a 27) (x1 + 480).toNat + s15 (gP G a 27) (x1 + 480).toNat := by rw [e_s15, zU_eq]; exact zc_w (by omega) (by omega)
        refine j_aload_n hx 2 dX12_wins_189 rfl ?_
        refine g13_27 hx hG ha kf_RX12_56 dX12_wins_190 ?_
        refine j_sipush hx dX12_wins_193 rfl ?_
        refine j_iconst hx dX12_wins_196 ?_
        refine j_iast hx hG (zr (k := 27) (t2 := 84) hG ha rfl) (by decide) rfl (zlen hG (zr (k := 27) (t2 := 84) hG ha rfl) (n := 515) rfl rfl) (by omega) (by omega) (j := 486) rfl dX12_wins_197 ?_
        obtain ⟨s16, e_s16⟩ : ∃ z, z = zU s15 (gP G a 27) 486 0 := ⟨_, rfl⟩
        rw [← e_s16]
        have hS_s16 : zSK G s16 := by rw [e_s16]; exact zSK_a hS_s15 (zr (k := 27) (t2 := 84) hG ha rfl) rfl rfl (congrArg some (axS_2 486 (by omega))) (by omega)
        have g123 : s15 (gP G a 27) 486 = s14 (gP G a 27) 486 := (by rw [e_s15, zU_at (Or.inr (by omega))])
        have g124 : s16 (gP G a 27) 486 = 0 := (by rw [e_s16, zU_eq])
        have z122 : zc (s16 (gP G a 27)) = zc (s15 (gP G a 27)) - s15 (gP G a 27) 486 + s16 (gP G a 27) 486 := by rw [e_s16, zU_eq]; exact zc_w (by omega) (by omega)
        refine j_iload hx 0 dX12_wins_198 rfl ?_
        have g125 : s16 (gP G a 27) 488 = s14 (gP G a 27) 488 := (by rw [e_s16, zU_at (Or.inr (by decide)), e_s15, zU_at (Or.inr (by omega))])
        exact j_iret hx hq rfl (by decide) (by decide) dX12_wins_200 ⟨(s0 (gP G a 27) 483) + (s0 (gP G a 27) 485) + (s11 (gP G a 27) 486), rfl, rfl, hS_s16, (zFr_u (zFr_u (zFr_t (zFr_t (zFr_t zFr_rf hF_s10 (by decide)) hF_s11 (by decide)) hF_s14 (by decide)) e_s15 (zr (k := 27) (t2 := 84) hG ha rfl) (by decide)) e_s16 (zr (k := 27) (t2 := 84) hG ha rfl) (by decide)), ⟨(by omega), by omega, by omega⟩⟩
      · skip
        refine j_iload hx 3 dX12_wins_131 rfl ?_
        exact j_iret hx hq rfl (by decide) (by decide) dX12_wins_133 ⟨(s0 (gP G a 27) 483) + (s0 (gP G a 27) 485), rfl, rfl, hS_s11, (zFr_t (zFr_t zFr_rf hF_s10 (by decide)) hF_s11 (by decide)), ⟨(by omega), by omega, by omega⟩⟩
    have c123_17 : JJ X E 6 G s11 0 0 [(0, .ref a), (1, .int (zI x1)), (4, .int (zI ((s0 (gP G a 27) 483) + (s0 (gP G a 27) 485))))] 123 [] := by
      refine j_iconst hx dX12_wins_123 ?_
      exact j_sub [0, 1, 2] [(0, .ref a), (1, .int (zI x1)), (4, .int (zI ((s0 (gP G a 27) 483) + (s0 (gP G a 27) 485))))] rfl (c124_12 0 (by omega))
    refine j_if_le hx 123 dX12_wins_64 rfl (by omega) (fun h126 => ?_) (fun h126 => ?_)
    · skip
      exact j_sub [2, 3, 0] [(0, .ref a), (1, .int (zI x1)), (4, .int (zI ((s0 (gP G a 27) 483) + (s0 (gP G a 27) 485))))] rfl (c123_17  )
    · skip
      refine j_aload_n hx 2 dX12_wins_67 rfl ?_
      refine g13_27 hx hG ha kf_RX12_56 dX12_wins_68 ?_
      refine j_sipush hx dX12_wins_71 rfl ?_
      have f127 := zaQ (j := 493) hS_s11 (zr (k := 27) (t2 := 84) hG ha rfl) (congrArg some (axS_7 493 (by omega))) (zlen hG (zr (k := 27) (t2 := 84) hG ha rfl) (n := 515) rfl rfl) (show 0 ≤ 493 by omega) (by omega) rfl
      refine j_iald hx hG (zr (k := 27) (t2 := 84) hG ha rfl) (by decide) rfl (zlen hG (zr (k := 27) (t2 := 84) hG ha rfl) (n := 515) rfl rfl) (by omega) (by omega) (j := 493) rfl rfl dX12_wins_74 ?_
      refine j_iconst hx dX12_wins_75 ?_
      have c119_18 : JJ X E 6 G s11 0 0 [(0, .ref a), (1, .int (zI x1)), (4, .int (zI ((s0 (gP G a 27) 483) + (s0 (gP G a 27) 485))))] 119 [] := by
        refine j_iconst hx dX12_wins_119 ?_
        refine j_goto hx 124 dX12_wins_120 rfl ?_
        exact j_sub [0, 1, 2] [(0, .ref a), (1, .int (zI x1)), (4, .int (zI ((s0 (gP G a 27) 483) + (s0 (gP G a 27) 485))))] rfl (c124_12 1 (by omega))
      refine j_icmp_eq hx 119 dX12_wins_76 rfl (by omega) ⟨by decide, by decide⟩ (fun h128 => ?_) (fun h128 => ?_)
      · skip
        exact j_sub [2, 3, 0] [(0, .ref a), (1, .int (zI x1)), (4, .int (zI ((s0 (gP G a 27) 483) + (s0 (gP G a 27) 485))))] rfl (c119_18  )
      · skip
        refine j_aload_n hx 2 dX12_wins_79 rfl ?_
        refine g13_27 hx hG ha kf_RX12_56 dX12_wins_80 ?_
        refine j_sipush hx dX12_wins_83 rfl ?_
        refine j_iald hx hG (zr (k := 27) (t2 := 84) hG ha rfl) (by decide) rfl (zlen hG (zr (k := 27) (t2 := 84) hG ha rfl) (n := 515) rfl rfl) (by omega) (by omega) (j := 493) rfl rfl dX12_wins_86 ?_
        refine j_iconst hx dX12_wins_87 ?_
        refine j_icmp_ne hx 123 dX12_wins_88 rfl (by omega) ⟨by decide, by decide⟩ (fun h129 => ?_) (fun h129 => ?_)
        · skip
          exact j_sub [2, 3, 0] [(0, .ref a), (1, .int (zI x1)), (4, .int (zI ((s0 (gP G a 27) 483) + (s0 (gP G a 27) 485))))] rfl (c123_17  )
        · skip
          refine j_aload_n hx 2 dX12_wins_91 rfl ?_
          refine g13_19 hx hG ha kf_RX12_50 dX12_wins_92 ?_
          refine j_aload_n hx 2 dX12_wins_95 rfl ?_
          refine g13_27 hx hG ha kf_RX12_56 dX12_wins_96 ?_
          refine j_sipush hx dX12_wins_99 rfl ?_
          refine j_aload_n hx 2 dX12_wins_102 rfl ?_
          refine g13_27 hx hG ha kf_RX12_56 dX12_wins_103 ?_
          refine j_sipush hx dX12_wins_106 rfl ?_
          refine j_iald hx hG (zr (k := 27) (t2 := 84) hG ha rfl) (by decide) rfl (zlen hG (zr (k := 27) (t2 := 84) hG ha rfl) (n := 515) rfl rfl) (by omega) (by omega) (j := 486) rfl rfl dX12_wins_109 ?_
          refine j_iadd hx (r := (s11 (gP G a 27) 486) + 360) dX12_wins_110 (by omega) ?_
          refine j_iconst hx dX12_wins_111 ?_
          refine j_isub hx (r := (s11 (gP G a 27) 486) + 359) dX12_wins_112 (by omega) ?_
          have f130 := zaQ (j := ((s11 (gP G a 27) 486) + 359).toNat) hS_s11 (zr (k := 27) (t2 := 84) hG ha rfl) (congrArg some (axS_0 ((s11 (gP G a 27) 486) + 359).toNat (by omega))) (zlen hG (zr (k := 27) (t2 := 84) hG ha rfl) (n := 515) rfl rfl) (show 0 ≤ (s11 (gP G a 27) 486) + 359 by omega) (by omega) rfl
          refine j_iald hx hG (zr (k := 27) (t2 := 84) hG ha rfl) (by decide) rfl (zlen hG (zr (k := 27) (t2 := 84) hG ha rfl) (n := 515) rfl rfl) (by omega) (by omega) (j := ((s11 (gP G a 27) 486) + 359).toNat) rfl rfl dX12_wins_113 ?_
          have f131 := zaI (j := ((s11 (gP G a 27) ((s11 (gP G a 27) 486) + 359).toNat)).toNat) hS0 (zr (k := 19) (t2 := 82) hG ha rfl) rfl (zlen hG (zr (k := 19) (t2 := 82) hG ha rfl) (n := 60) rfl rfl) (show 0 ≤ (s11 (gP G a 27) ((s11 (gP G a 27) 486) + 359).toNat) by omega) (by omega) rfl
          refine j_iald hx hG (zr (k := 19) (t2 := 82) hG ha rfl) (by decide) rfl (zlen hG (zr (k := 19) (t2 := 82) hG ha rfl) (n := 60) rfl rfl) (by omega) (by omega) (j := ((s11 (gP G a 27) ((s11 (gP G a 27) 486) + 359).toNat)).toNat) rfl (v := (s0 (gP G a 19) ((s11 (gP G a 27) ((s11 (gP G a 27) 486) + 359).toNat)).toNat)) (by rw [(zFr_g hF_s11 (zr (k := 19) (t2 := 82) hG ha rfl) (by decide)), (zFr_g hF_s10 (zr (k := 19) (t2 := 82) hG ha rfl) (by decide))]) dX12_wins_114 ?_
          refine j_iload_n hx 1 dX12_wins_115 rfl ?_
          refine j_icmp_ne hx 123 dX12_wins_116 rfl (by omega) (by omega) (fun h132 => ?_) (fun h132 => ?_)
          · skip
            exact j_sub [2, 3, 0] [(0, .ref a), (1, .int (zI x1)), (4, .int (zI ((s0 (gP G a 27) 483) + (s0 (gP G a 27) 485))))] rfl (c123_17  )
          · skip
            exact j_sub [2, 3, 0] [(0, .ref a), (1, .int (zI x1)), (4, .int (zI ((s0 (gP G a 27) 483) + (s0 (gP G a 27) 485))))] rfl (c119_18  )
  · skip
    refine j_aload_n hx 0 dX12_wins_0 rfl ?_
    refine j_iload_n hx 2 dX12_wins_1 rfl ?_
    refine j_bipush hx dX12_wins_2 rfl ?_
    refine j_idiv hx dX12_wins_4 ⟨by decide, by decide⟩ ⟨by decide, by decide⟩ (by decide) (fun v133 f134 f135 f136 => ?_)
    obtain rfl : v133 = 1 := by omega
    refine j_callV hx hG (c_X12_top hst a 1) lk_RX12_334 ha (by decide) rfl rfl rfl rfl [.int (zI 1)] ⟨rfl, hG, hS0, ha, (by omega)⟩ rfl rfl ⟨by decide, by decide⟩ ⟨by decide, by decide⟩ (k2 := 0) (n2 := 0) rfl rfl (Nat.le_of_ble_eq_true rfl) dX12_wins_5 (kIP (fun v139 q140 => ?_))
    refine j_istore_n hx [(3, .int (zI v139)), (0, .ref a), (1, .int (zI x1)), (2, .int (zI 12))] dX12_wins_8 (by decide) rfl ?_
    refine j_aload_n hx 1 dX12_wins_9 rfl ?_
    refine g13_27 hx hG ha kf_RX12_56 dX12_wins_10 ?_
    refine j_sipush hx dX12_wins_13 rfl ?_
    refine j_iload_n hx 3 dX12_wins_16 rfl ?_
    refine j_bipush hx dX12_wins_17 rfl ?_
    refine j_idiv hx dX12_wins_19 ⟨by decide, by decide⟩ ⟨by decide, by decide⟩ (by decide) (fun v141 f142 f143 f144 => ?_)
    obtain rfl : v141 = 1 := by omega
    refine j_iadd hx (r := 484) dX12_wins_20 (by omega) ?_
    have f147 := zaQ (j := 484) hS0 (zr (k := 27) (t2 := 84) hG ha rfl) (congrArg some (axS_2 484 (by omega))) (zlen hG (zr (k := 27) (t2 := 84) hG ha rfl) (n := 515) rfl rfl) (show 0 ≤ 484 by omega) (by omega) rfl
    have c148 := zc_1 (j := 484) hS0 (zr (k := 27) (t2 := 84) hG ha rfl) (zn hG (zr (k := 27) (t2 := 84) hG ha rfl) rfl) (by omega) (by omega)
    refine j_iald hx hG (zr (k := 27) (t2 := 84) hG ha rfl) (by decide) rfl (zlen hG (zr (k := 27) (t2 := 84) hG ha rfl) (n := 515) rfl rfl) (by omega) (by omega) (j := 484) rfl rfl dX12_wins_21 ?_
    refine j_aload_n hx 1 dX12_wins_22 rfl ?_
    refine g13_27 hx hG ha kf_RX12_56 dX12_wins_23 ?_
    refine j_sipush hx dX12_wins_26 rfl ?_
    refine j_iload_n hx 3 dX12_wins_29 rfl ?_
    refine j_bipush hx dX12_wins_30 rfl ?_
    refine j_irem hx dX12_wins_32 ⟨by decide, by decide⟩ ⟨by decide, by decide⟩ (by decide) (fun v149 f150 f151 f152 f153 => ?_)
    obtain rfl : v149 = 2 := by omega
    refine j_iadd hx (r := 485) dX12_wins_33 (by omega) ?_
    have f155 := zaQ (j := 485) hS0 (zr (k := 27) (t2 := 84) hG ha rfl) (congrArg some (axS_2 485 (by omega))) (zlen hG (zr (k := 27) (t2 := 84) hG ha rfl) (n := 515) rfl rfl) (show 0 ≤ 485 by omega) (by omega) rfl
    have c156 := zc_1 (j := 485) hS0 (zr (k := 27) (t2 := 84) hG ha rfl) (zn hG (zr (k := 27) (t2 := 84) hG ha rfl) rfl) (by omega) (by omega)
    have c157 : 484 ≠ 485 → s0 (gP G a 27) 484 + s0 (gP G a 27) 485 ≤ zc (s0 (gP G a 27)) := fun e => zc_2 hS0 (zr (k := 27) (t2 := 84) hG ha rfl) (zn hG (zr (k := 27) (t2 := 84) hG ha rfl) rfl) (by omega) (by omega) (by omega) (by omega) e
    refine j_iald hx hG (zr (k := 27) (t2 := 84) hG ha rfl) (by decide) rfl (zlen hG (zr (k := 27) (t2 := 84) hG ha rfl) (n := 515) rfl rfl) (by omega) (by omega) (j := 485) rfl rfl dX12_wins_34 ?_
    refine j_iadd hx (r := (s0 (gP G a 27) 484) + (s0 (gP G a 27) 485)) dX12_wins_35 (by omega) ?_
    refine j_istore hx [(4, .int (zI ((s0 (gP G a 27) 484) + (s0 (gP G a 27) 485)))), (3, .int (zI v139)), (0, .ref a), (1, .int (zI x1)), (2, .int (zI 12))] dX12_wins_36 (by decide) rfl ?_
    refine j_aload_n hx 2 dX12_wins_38 rfl ?_
    refine j_iload_n hx 4 dX12_wins_39 rfl ?_
    refine j_bipush hx dX12_wins_40 rfl ?_
    refine j_idiv hx dX12_wins_42 ⟨by decide, by decide⟩ ⟨by decide, by decide⟩ (by decide) (fun v158 f159 f160 f161 => ?_)
    obtain rfl : v158 = 1 := by omega
    refine j_iload_n hx 3 dX12_wins_43 rfl ?_
    refine j_callV hx hG (c_X12_comesToRow hst a 1 x1) lk_RX12_368 ha (by decide) rfl rfl rfl rfl [.int (zI 1), .int (zI x1)] ⟨rfl, hG, hS0, ha, (by omega), (by omega), (by omega)⟩ rfl rfl ⟨by decide, by decide⟩ ⟨by decide, by decide⟩ (k2 := 0) (n2 := 0) rfl rfl (Nat.le_of_ble_eq_true rfl) dX12_wins_44 (kVM (fun s19 hS_s19 hF_s19 q165 => ?_))
    refine j_aload_n hx 2 dX12_wins_47 rfl ?_
    refine j_iload_n hx 4 dX12_wins_48 rfl ?_
    refine j_bipush hx dX12_wins_49 rfl ?_
    refine j_irem hx dX12_wins_51 ⟨by decide, by decide⟩ ⟨by decide, by decide⟩ (by decide) (fun v166 f167 f168 f169 f170 => ?_)
    obtain rfl : v166 = 2 := by omega
    refine j_iload_n hx 3 dX12_wins_52 rfl ?_
    refine j_callV hx hG (c_X12_comesToRow hst a 2 x1) lk_RX12_368 ha (by decide) rfl rfl rfl rfl [.int (zI 2), .int (zI x1)] ⟨rfl, hG, hS_s19, ha, (by omega), (by omega), (by omega)⟩ rfl rfl ⟨by decide, by decide⟩ ⟨by decide, by decide⟩ (k2 := 0) (n2 := 0) rfl rfl (Nat.le_of_ble_eq_true rfl) dX12_wins_53 (kVM (fun s20 hS_s20 hF_s20 q173 => ?_))
    refine j_aload_n hx 2 dX12_wins_56 rfl ?_
    refine g13_27 hx hG ha kf_RX12_56 dX12_wins_57 ?_
    refine j_sipush hx dX12_wins_60 rfl ?_
    have f174 := zaQ (j := 486) hS_s20 (zr (k := 27) (t2 := 84) hG ha rfl) (congrArg some (axS_2 486 (by omega))) (zlen hG (zr (k := 27) (t2 := 84) hG ha rfl) (n := 515) rfl rfl) (show 0 ≤ 486 by omega) (by omega) rfl
    have c175 := zc_1 (j := 486) hS_s20 (zr (k := 27) (t2 := 84) hG ha rfl) (zn hG (zr (k := 27) (t2 := 84) hG ha rfl) rfl) (by omega) (by omega)
    refine j_iald hx hG (zr (k := 27) (t2 := 84) hG ha rfl) (by decide) rfl (zlen hG (zr (k := 27) (t2 := 84) hG ha rfl) (n := 515) rfl rfl) (by omega) (by omega) (j := 486) rfl rfl dX12_wins_63 ?_
    have c124_21 : ∀ (v176 : Int), (0 ≤ v176 ∧ v176 ≤ 1) → JJ X E 6 G s20 0 0 [(0, .ref a), (1, .int (zI x1)), (4, .int (zI ((s0 (gP G a 27) 484) + (s0 (gP G a 27) 485))))] 124 [.int (zI v176)] := by
      intro v176 fA22
      refine j_istore hx [(5, .int (zI v176)), (0, .ref a), (1, .int (zI x1)), (4, .int (zI ((s0 (gP G a 27) 484) + (s0 (gP G a 27) 485))))] dX12_wins_124 (by decide) rfl ?_
      refine j_iload hx 0 dX12_wins_126 rfl ?_
      refine j_if_ne hx 134 dX12_wins_128 rfl (by omega) (fun h177 => ?_) (fun h177 => ?_)
      · skip
        refine j_iload hx 3 dX12_wins_134 rfl ?_
        refine j_aload_n hx 1 dX12_wins_136 rfl ?_
        refine g13_27 hx hG ha kf_RX12_56 dX12_wins_137 ?_
        refine j_sipush hx dX12_wins_140 rfl ?_
        refine j_iald hx hG (zr (k := 27) (t2 := 84) hG ha rfl) (by decide) rfl (zlen hG (zr (k := 27) (t2 := 84) hG ha rfl) (n := 515) rfl rfl) (by omega) (by omega) (j := 486) rfl rfl dX12_wins_143 ?_
        refine j_iadd hx (r := (s0 (gP G a 27) 484) + (s0 (gP G a 27) 485) + (s20 (gP G a 27) 486)) dX12_wins_144 (by omega) ?_
        refine j_istore hx [(4, .int (zI ((s0 (gP G a 27) 484) + (s0 (gP G a 27) 485) + (s20 (gP G a 27) 486)))), (5, .int (zI v176)), (0, .ref a), (1, .int (zI x1))] dX12_wins_145 (by decide) rfl ?_
        refine j_aload_n hx 2 dX12_wins_147 rfl ?_
        refine j_sipush hx dX12_wins_148 rfl ?_
        refine j_sipush hx dX12_wins_151 rfl ?_
        refine j_iconst hx dX12_wins_154 ?_
        refine j_bipush hx dX12_wins_155 rfl ?_
        refine j_iload_n hx 3 dX12_wins_157 rfl ?_
        refine j_imul hx (r := 60 * x1) dX12_wins_158 rfl ?_
        refine j_iadd hx (r := 60 * x1) dX12_wins_159 (by omega) ?_
        refine j_sipush hx dX12_wins_160 rfl ?_
        refine j_iload_n hx 3 dX12_wins_163 rfl ?_
        refine j_iadd hx (r := x1 + 480) dX12_wins_164 (by omega) ?_
        have g178 : s20 (gP G a 27) (Int.toNat 486) = s20 (gP G a 27) 486 := rfl
        refine j_callV hx hG (c_X12_take hst a 360 486 (60 * x1) (x1 + 480)) lk_RX12_361 ha (by decide) rfl rfl rfl rfl [.int (zI 360), .int (zI 486), .int (zI (60 * x1)), .int (zI (x1 + 480))] ⟨rfl, hG, hS_s20, ha, (by omega), (by omega), (by omega), (by omega), (by omega), (by omega)⟩ rfl rfl ⟨by decide, by decide⟩ ⟨by decide, by decide⟩ (k2 := 0) (n2 := 0) rfl rfl (Nat.le_of_ble_eq_true rfl) dX12_wins_165 (kVM (fun s23 hS_s23 hF_s23 q180 => ?_))
        refine j_aload_n hx 2 dX12_wins_168 rfl ?_
        refine g13_27 hx hG ha kf_RX12_56 dX12_wins_169 ?_
        refine j_sipush hx dX12_wins_172 rfl ?_
        refine j_iload_n hx 3 dX12_wins_175 rfl ?_
        refine j_iadd hx (r := x1 + 480) dX12_wins_176 (by omega) ?_
        refine j_dup2 hx dX12_wins_177 rfl rfl ?_
        have f181 := zaQ (j := (x1 + 480).toNat) hS_s23 (zr (k := 27) (t2 := 84) hG ha rfl) (congrArg some (axS_2 (x1 + 480).toNat (by omega))) (zlen hG (zr (k := 27) (t2 := 84) hG ha rfl) (n := 515) rfl rfl) (show 0 ≤ x1 + 480 by omega) (by omega) rfl
        have c182 := zc_1 (j := (x1 + 480).toNat) hS_s23 (zr (k := 27) (t2 := 84) hG ha rfl) (zn hG (zr (k := 27) (t2 := 84) hG ha rfl) rfl) (by omega) (by omega)
        refine j_iald hx hG (zr (k := 27) (t2 := 84) hG ha rfl) (by decide) rfl (zlen hG (zr (k := 27) (t2 := 84) hG ha rfl) (n := 515) rfl rfl) (by omega) (by omega) (j := (x1 + 480).toNat) rfl rfl dX12_wins_178 ?_
        refine j_aload_n hx 2 dX12_wins_179 rfl ?_
        refine g13_27 hx hG ha kf_RX12_56 dX12_wins_180 ?_
        refine j_sipush hx dX12_wins_183 rfl ?_
        have f183 := zaQ (j := 486) hS_s23 (zr (k := 27) (t2 := 84) hG ha rfl) (congrArg some (axS_2 486 (by omega))) (zlen hG (zr (k := 27) (t2 := 84) hG ha rfl) (n := 515) rfl rfl) (show 0 ≤ 486 by omega) (by omega) rfl
        have c184 := zc_1 (j := 486) hS_s23 (zr (k := 27) (t2 := 84) hG ha rfl) (zn hG (zr (k := 27) (t2 := 84) hG ha rfl) rfl) (by omega) (by omega)
        have c185 : (x1 + 480).toNat ≠ 486 → s23 (gP G a 27) (x1 + 480).toNat + s23 (gP G a 27) 486 ≤ zc (s23 (gP G a 27)) := fun e => zc_2 hS_s23 (zr (k := 27) (t2 := 84) hG ha rfl) (zn hG (zr (k := 27) (t2 := 84) hG ha rfl) rfl) (by omega) (by omega) (by omega) (by omega) e
        refine j_iald hx hG (zr (k := 27) (t2 := 84) hG ha rfl) (by decide) rfl (zlen hG (zr (k := 27) (t2 := 84) hG ha rfl) (n := 515) rfl rfl) (by omega) (by omega) (j := 486) rfl rfl dX12_wins_186 ?_
        refine j_iadd hx (r := (s23 (gP G a 27) (x1 + 480).toNat) + (s23 (gP G a 27) 486)) dX12_wins_187 (by omega) ?_
        refine j_iast hx hG (zr (k := 27) (t2 := 84) hG ha rfl) (by decide) rfl (zlen hG (zr (k := 27) (t2 := 84) hG ha rfl) (n := 515) rfl rfl) (by omega) (by omega) (j := (x1 + 480).toNat) rfl dX12_wins_188 ?_
        obtain ⟨s24, e_s24⟩ : ∃ z, z = zU s23 (gP G a 27) (x1 + 480).toNat ((s23 (gP G a 27) (x1 + 480).toNat) + (s23 (gP G a 27) 486)) := ⟨_, rfl⟩
        rw [← e_s24]
        have hS_s24 : zSK G s24 := by rw [e_s24]; exact zSK_a hS_s23 (zr (k := 27) (t2 := 84) hG ha rfl) rfl rfl (congrArg some (axS_2 (x1 + 480).toNat (by omega))) (by omega)
        have g187 : s24 (gP G a 27) (x1 + 480).toNat = (s23 (gP G a 27) (x1 + 480).toNat) + (s23 (gP G a 27) 486) := (by rw [e_s24, zU_eq])
        have z186 : zc (s24 (gP G a 27)) = zc (s23 (gP G a 27)) - s23 (gP G a 27) (x1 + 480).toNat + s24 (gP G a 27) (x1 + 480).toNat := by rw [e_s24, zU_eq]; exact zc_w (by omega) (by omega)
        refine j_aload_n hx 2 dX12_wins_189 rfl ?_
        refine g13_27 hx hG ha kf_RX12_56 dX12_wins_190 ?_
        refine j_sipush hx dX12_wins_193 rfl ?_
        refine j_iconst hx dX12_wins_196 ?_
        refine j_iast hx hG (zr (k := 27) (t2 := 84) hG ha rfl) (by decide) rfl (zlen hG (zr (k := 27) (t2 := 84) hG ha rfl) (n := 515) rfl rfl) (by omega) (by omega) (j := 486) rfl dX12_wins_197 ?_
        obtain ⟨s25, e_s25⟩ : ∃ z, z = zU s24 (gP G a 27) 486 0 := ⟨_, rfl⟩
        rw [← e_s25]
        have hS_s25 : zSK G s25 := by rw [e_s25]; exact zSK_a hS_s24 (zr (k := 27) (t2 := 84) hG ha rfl) rfl rfl (congrArg some (axS_2 486 (by omega))) (by omega)
        have g189 : s24 (gP G a 27) 486 = s23 (gP G a 27) 486 := (by rw [e_s24, zU_at (Or.inr (by omega))])
        have g190 : s25 (gP G a 27) 486 = 0 := (by rw [e_s25, zU_eq])
        have z188 : zc (s25 (gP G a 27)) = zc (s24 (gP G a 27)) - s24 (gP G a 27) 486 + s25 (gP G a 27) 486 := by rw [e_s25, zU_eq]; exact zc_w (by omega) (by omega)
        refine j_iload hx 0 dX12_wins_198 rfl ?_
        have g191 : s25 (gP G a 27) 488 = s23 (gP G a 27) 488 := (by rw [e_s25, zU_at (Or.inr (by decide)), e_s24, zU_at (Or.inr (by omega))])
        exact j_iret hx hq rfl (by decide) (by decide) dX12_wins_200 ⟨(s0 (gP G a 27) 484) + (s0 (gP G a 27) 485) + (s20 (gP G a 27) 486), rfl, rfl, hS_s25, (zFr_u (zFr_u (zFr_t (zFr_t (zFr_t zFr_rf hF_s19 (by decide)) hF_s20 (by decide)) hF_s23 (by decide)) e_s24 (zr (k := 27) (t2 := 84) hG ha rfl) (by decide)) e_s25 (zr (k := 27) (t2 := 84) hG ha rfl) (by decide)), ⟨(by omega), by omega, by omega⟩⟩
      · skip
        refine j_iload hx 3 dX12_wins_131 rfl ?_
        exact j_iret hx hq rfl (by decide) (by decide) dX12_wins_133 ⟨(s0 (gP G a 27) 484) + (s0 (gP G a 27) 485), rfl, rfl, hS_s20, (zFr_t (zFr_t zFr_rf hF_s19 (by decide)) hF_s20 (by decide)), ⟨(by omega), by omega, by omega⟩⟩
    have c123_26 : JJ X E 6 G s20 0 0 [(0, .ref a), (1, .int (zI x1)), (4, .int (zI ((s0 (gP G a 27) 484) + (s0 (gP G a 27) 485))))] 123 [] := by
      refine j_iconst hx dX12_wins_123 ?_
      exact j_sub [0, 1, 2] [(0, .ref a), (1, .int (zI x1)), (4, .int (zI ((s0 (gP G a 27) 484) + (s0 (gP G a 27) 485))))] rfl (c124_21 0 (by omega))
    refine j_if_le hx 123 dX12_wins_64 rfl (by omega) (fun h192 => ?_) (fun h192 => ?_)
    · skip
      exact j_sub [2, 3, 0] [(0, .ref a), (1, .int (zI x1)), (4, .int (zI ((s0 (gP G a 27) 484) + (s0 (gP G a 27) 485))))] rfl (c123_26  )
    · skip
      refine j_aload_n hx 2 dX12_wins_67 rfl ?_
      refine g13_27 hx hG ha kf_RX12_56 dX12_wins_68 ?_
      refine j_sipush hx dX12_wins_71 rfl ?_
      have f193 := zaQ (j := 493) hS_s20 (zr (k := 27) (t2 := 84) hG ha rfl) (congrArg some (axS_7 493 (by omega))) (zlen hG (zr (k := 27) (t2 := 84) hG ha rfl) (n := 515) rfl rfl) (show 0 ≤ 493 by omega) (by omega) rfl
      refine j_iald hx hG (zr (k := 27) (t2 := 84) hG ha rfl) (by decide) rfl (zlen hG (zr (k := 27) (t2 := 84) hG ha rfl) (n := 515) rfl rfl) (by omega) (by omega) (j := 493) rfl rfl dX12_wins_74 ?_
      refine j_iconst hx dX12_wins_75 ?_
      have c119_27 : JJ X E 6 G s20 0 0 [(0, .ref a), (1, .int (zI x1)), (4, .int (zI ((s0 (gP G a 27) 484) + (s0 (gP G a 27) 485))))] 119 [] := by
        refine j_iconst hx dX12_wins_119 ?_
        refine j_goto hx 124 dX12_wins_120 rfl ?_
        exact j_sub [0, 1, 2] [(0, .ref a), (1, .int (zI x1)), (4, .int (zI ((s0 (gP G a 27) 484) + (s0 (gP G a 27) 485))))] rfl (c124_21 1 (by omega))
      refine j_icmp_eq hx 119 dX12_wins_76 rfl (by omega) ⟨by decide, by decide⟩ (fun h194 => ?_) (fun h194 => ?_)
      · skip
        exact j_sub [2, 3, 0] [(0, .ref a), (1, .int (zI x1)), (4, .int (zI ((s0 (gP G a 27) 484) + (s0 (gP G a 27) 485))))] rfl (c119_27  )
      · skip
        refine j_aload_n hx 2 dX12_wins_79 rfl ?_
        refine g13_27 hx hG ha kf_RX12_56 dX12_wins_80 ?_
        refine j_sipush hx dX12_wins_83 rfl ?_
        refine j_iald hx hG (zr (k := 27) (t2 := 84) hG ha rfl) (by decide) rfl (zlen hG (zr (k := 27) (t2 := 84) hG ha rfl) (n := 515) rfl rfl) (by omega) (by omega) (j := 493) rfl rfl dX12_wins_86 ?_
        refine j_iconst hx dX12_wins_87 ?_
        refine j_icmp_ne hx 123 dX12_wins_88 rfl (by omega) ⟨by decide, by decide⟩ (fun h195 => ?_) (fun h195 => ?_)
        · skip
          exact j_sub [2, 3, 0] [(0, .ref a), (1, .int (zI x1)), (4, .int (zI ((s0 (gP G a 27) 484) + (s0 (gP G a 27) 485))))] rfl (c123_26  )
        · skip
          refine j_aload_n hx 2 dX12_wins_91 rfl ?_
          refine g13_19 hx hG ha kf_RX12_50 dX12_wins_92 ?_
          refine j_aload_n hx 2 dX12_wins_95 rfl ?_
          refine g13_27 hx hG ha kf_RX12_56 dX12_wins_96 ?_
          refine j_sipush hx dX12_wins_99 rfl ?_
          refine j_aload_n hx 2 dX12_wins_102 rfl ?_
          refine g13_27 hx hG ha kf_RX12_56 dX12_wins_103 ?_
          refine j_sipush hx dX12_wins_106 rfl ?_
          refine j_iald hx hG (zr (k := 27) (t2 := 84) hG ha rfl) (by decide) rfl (zlen hG (zr (k := 27) (t2 := 84) hG ha rfl) (n := 515) rfl rfl) (by omega) (by omega) (j := 486) rfl rfl dX12_wins_109 ?_
          refine j_iadd hx (r := (s20 (gP G a 27) 486) + 360) dX12_wins_110 (by omega) ?_
          refine j_iconst hx dX12_wins_111 ?_
          refine j_isub hx (r := (s20 (gP G a 27) 486) + 359) dX12_wins_112 (by omega) ?_
          have f196 := zaQ (j := ((s20 (gP G a 27) 486) + 359).toNat) hS_s20 (zr (k := 27) (t2 := 84) hG ha rfl) (congrArg some (axS_0 ((s20 (gP G a 27) 486) + 359).toNat (by omega))) (zlen hG (zr (k := 27) (t2 := 84) hG ha rfl) (n := 515) rfl rfl) (show 0 ≤ (s20 (gP G a 27) 486) + 359 by omega) (by omega) rfl
          refine j_iald hx hG (zr (k := 27) (t2 := 84) hG ha rfl) (by decide) rfl (zlen hG (zr (k := 27) (t2 := 84) hG ha rfl) (n := 515) rfl rfl) (by omega) (by omega) (j := ((s20 (gP G a 27) 486) + 359).toNat) rfl rfl dX12_wins_113 ?_
          have f197 := zaI (j := ((s20 (gP G a 27) ((s20 (gP G a 27) 486) + 359).toNat)).toNat) hS0 (zr (k := 19) (t2 := 82) hG ha rfl) rfl (zlen hG (zr (k := 19) (t2 := 82) hG ha rfl) (n := 60) rfl rfl) (show 0 ≤ (s20 (gP G a 27) ((s20 (gP G a 27) 486) + 359).toNat) by omega) (by omega) rfl
          refine j_iald hx hG (zr (k := 19) (t2 := 82) hG ha rfl) (by decide) rfl (zlen hG (zr (k := 19) (t2 := 82) hG ha rfl) (n := 60) rfl rfl) (by omega) (by omega) (j := ((s20 (gP G a 27) ((s20 (gP G a 27) 486) + 359).toNat)).toNat) rfl (v := (s0 (gP G a 19) ((s20 (gP G a 27) ((s20 (gP G a 27) 486) + 359).toNat)).toNat)) (by rw [(zFr_g hF_s20 (zr (k := 19) (t2 := 82) hG ha rfl) (by decide)), (zFr_g hF_s19 (zr (k := 19) (t2 := 82) hG ha rfl) (by decide))]) dX12_wins_114 ?_
          refine j_iload_n hx 1 dX12_wins_115 rfl ?_
          refine j_icmp_ne hx 123 dX12_wins_116 rfl (by omega) (by omega) (fun h198 => ?_) (fun h198 => ?_)
          · skip
            exact j_sub [2, 3, 0] [(0, .ref a), (1, .int (zI x1)), (4, .int (zI ((s0 (gP G a 27) 484) + (s0 (gP G a 27) 485))))] rfl (c123_26  )
          · skip
            exact j_sub [2, 3, 0] [(0, .ref a), (1, .int (zI x1)), (4, .int (zI ((s0 (gP G a 27) 484) + (s0 (gP G a 27) 485))))] rfl (c119_27  )

theorem lk_RX12_391 : LkV RX12 391 RX12 yX12_falls cX12_falls 4 none 1 := ⟨km_RX12_391, ki_yX12_falls, ks_RX12_yX12_falls, kn_RX12, kc_yX12_falls, rfl, by decide +kernel, by decide +kernel, by decide +kernel⟩
theorem lk_RX12_394 : LkV RX12 394 RX12 yX12_wins cX12_wins 6 (some .int) 2 := ⟨km_RX12_394, ki_yX12_wins, ks_RX12_yX12_wins, kn_RX12, kc_yX12_wins, rfl, by decide +kernel, by decide +kernel, by decide +kernel⟩
set_option maxHeartbeats 1200000 in
set_option maxRecDepth 20000 in
theorem c_X12_judges {E : zE} {l : Launch} (hst : l.stackTraces = false) (a : Nat) : Con E l yX12_judges cX12_judges 6 none { frames := 4, cells := 0, slots := 0, locals := 95 } (fun G s vs => vs = [.ref a] ∧ zGK G ∧ zSK G s ∧ (gT G a = 13) ∧ (zc (s (gP G a 27)) ≤ 60)) (fun G s _ => pV (fun G2 s2 => G2 = G ∧ zSK G s2 ∧ zFr [84, 87] G s s2 ∧ zc (s2 (gP G a 27)) = zc (s (gP G a 27)) ∧ s2 (gP G a 27) 488 = s (gP G a 27) 488)) := by
  refine Con.mk hst (by decide) (fun G s vs h => by rw [h.1]; exact Nat.le_of_ble_eq_true rfl) ?_
  rintro X G s0 vs ⟨rfl, hG, hS0, ha, e0⟩ rfl hx hq
  show JJ X E 6 G s0 0 0 [(0, .ref a)] 0 []
  refine j_iconst hx dX12_judges_0 ?_
  refine j_istore_n hx [(1, .int (zI (-1))), (0, .ref a)] dX12_judges_1 (by decide) rfl ?_
  refine j_iconst hx dX12_judges_2 ?_
  refine j_istore_n hx [(2, .int (zI 0)), (1, .int (zI (-1))), (0, .ref a)] dX12_judges_3 (by decide) rfl ?_
  refine j_iconst hx dX12_judges_4 ?_
  refine j_istore_n hx [(3, .int (zI 0)), (2, .int (zI 0)), (1, .int (zI (-1))), (0, .ref a)] dX12_judges_5 (by decide) rfl ?_
  refine j_iconst hx dX12_judges_6 ?_
  refine j_istore hx [(4, .int (zI 0)), (3, .int (zI 0)), (2, .int (zI 0)), (1, .int (zI (-1))), (0, .ref a)] dX12_judges_7 (by decide) rfl ?_
  have c9_1 : ∀ (m_c9_1 : Nat) (v1 : Int) (v2 : Int) (v3 : Int) (v4 : Int), 2147483648 - v4 < m_c9_1 → ((-1) ≤ v1 ∧ v1 ≤ 2) → ((-2147483648) ≤ v2 ∧ v2 ≤ 2147483647) → ((-2147483648) ≤ v3 ∧ v3 ≤ 2147483647) → (0 ≤ v4 ∧ v4 ≤ 3) → JJ X E 6 G s0 0 0 [(0, .ref a), (1, .int (zI v1)), (2, .int (zI v2)), (3, .int (zI v3)), (4, .int (zI v4))] 9 [] := by
    intro m_c9_1
    induction m_c9_1 with
    | zero => intro v1 v2 v3 v4 hm_c9_1 fA2 fA3 fA4 fA5; exfalso; omega
    | succ m_c9_1 ih_c9_1 => 
      intro v1 v2 v3 v4 hm_c9_1 fA2 fA3 fA4 fA5
      refine j_iload hx 4 dX12_judges_9 rfl ?_
      refine j_aload_n hx 0 dX12_judges_11 rfl ?_
      have f5 := zf hS0 ha (k := 24) rfl
      refine g13_24 hx hG ha kf_RX12_189 rfl dX12_judges_12 ?_
      refine j_icmp_ge hx 92 dX12_judges_15 rfl (by omega) (by omega) (fun h6 => ?_) (fun h6 => ?_)
      · skip
        refine j_iconst hx dX12_judges_92 ?_
        refine j_istore hx [(4, .int (zI 0)), (0, .ref a), (1, .int (zI v1)), (2, .int (zI v2)), (3, .int (zI v3))] dX12_judges_93 (by decide) rfl ?_
        have c95_6 : ∀ (m_c95_6 : Nat) (v7 : Int) (s7 : zS), 2147483648 - v7 < m_c95_6 → (0 ≤ v7 ∧ v7 ≤ 5) → (zSK G s7) → (zFr [87] G s0 s7) → JJ X E 6 G s7 0 0 [(0, .ref a), (1, .int (zI v1)), (2, .int (zI v2)), (3, .int (zI v3)), (4, .int (zI v7))] 95 [] := by
          intro m_c95_6
          induction m_c95_6 with
          | zero => intro v7 s7 hm_c95_6 fA8 hS_s7 hF_s7; exfalso; omega
          | succ m_c95_6 ih_c95_6 => 
            intro v7 s7 hm_c95_6 fA8 hS_s7 hF_s7
            refine j_iload hx 4 dX12_judges_95 rfl ?_
            refine j_iconst hx dX12_judges_97 ?_
            refine j_icmp_ge hx 125 dX12_judges_98 rfl (by omega) ⟨by decide, by decide⟩ (fun h8 => ?_) (fun h8 => ?_)
            · skip
              refine j_aload_n hx 0 dX12_judges_125 rfl ?_
              refine g13_30 hx hG ha kf_RX12_65 dX12_judges_126 ?_
              refine j_iconst hx dX12_judges_129 ?_
              refine j_iload_n hx 2 dX12_judges_130 rfl ?_
              refine j_iast hx hG (zr (k := 30) (t2 := 87) hG ha rfl) (by decide) rfl (zlen hG (zr (k := 30) (t2 := 87) hG ha rfl) (n := 5) rfl rfl) (by omega) (by omega) (j := 3) rfl dX12_judges_131 ?_
              obtain ⟨s11, e_s11⟩ : ∃ z, z = zU s7 (gP G a 30) 3 v2 := ⟨_, rfl⟩
              rw [← e_s11]
              have hS_s11 : zSK G s11 := by rw [e_s11]; exact zSK_A hS_s7 (zr (k := 30) (t2 := 87) hG ha rfl) rfl rfl rfl (by omega)
              refine j_iload_n hx 1 dX12_judges_132 rfl ?_
              refine j_iconst hx dX12_judges_133 ?_
              refine j_icmp_ne hx 138 dX12_judges_134 rfl (by omega) ⟨by decide, by decide⟩ (fun h9 => ?_) (fun h9 => ?_)
              · skip
                refine j_aload_n hx 0 dX12_judges_138 rfl ?_
                refine j_callV hx hG (c_X12_alikes hst a) lk_RX12_343 ha (by decide) rfl rfl rfl rfl [] ⟨rfl, hG, hS_s11, ha⟩ rfl rfl ⟨by decide, by decide⟩ ⟨by decide, by decide⟩ (k2 := 0) (n2 := 0) rfl rfl (Nat.le_of_ble_eq_true rfl) dX12_judges_139 (kIP (fun v10 q11 => ?_))
                refine j_istore hx [(4, .int (zI v10)), (0, .ref a), (1, .int (zI v1)), (2, .int (zI v2)), (3, .int (zI v3))] dX12_judges_142 (by decide) rfl ?_
                rcases (show v10 = (-1) ∨ v10 = 1 ∨ v10 = 2 ∨ v10 = 12 by omega) with rfl | rfl | rfl | rfl
                · skip
                  refine j_iload_n hx 4 dX12_judges_144 rfl ?_
                  refine j_iconst hx dX12_judges_145 ?_
                  have g12 : s11 (gP G a 27) 488 = s0 (gP G a 27) 488 := (by rw [e_s11, zU_at (Or.inl (zne (zr (k := 30) (t2 := 87) hG ha rfl) (zr (k := 27) (t2 := 84) hG ha rfl) (by decide))), (zFr_g hF_s7 (zr (k := 27) (t2 := 84) hG ha rfl) (by decide))])
                  have c250_12 : (s11 (gP G a 27) 488 = s11 (gP G a 27) 488) → JJ X E 6 G s11 0 0 [(0, .ref a), (1, .int (zI v1)), (4, .int (zI (-1)))] 250 [] := by
                    intro  fA13
                    refine j_aload_n hx 0 dX12_judges_250 rfl ?_
                    refine g13_30 hx hG ha kf_RX12_65 dX12_judges_251 ?_
                    refine j_iconst hx dX12_judges_254 ?_
                    refine j_iload_n hx 1 dX12_judges_255 rfl ?_
                    refine j_iast hx hG (zr (k := 30) (t2 := 87) hG ha rfl) (by decide) rfl (zlen hG (zr (k := 30) (t2 := 87) hG ha rfl) (n := 5) rfl rfl) (by omega) (by omega) (j := 1) rfl dX12_judges_256 ?_
                    obtain ⟨s14, e_s14⟩ : ∃ z, z = zU s11 (gP G a 30) 1 v1 := ⟨_, rfl⟩
                    rw [← e_s14]
                    have hS_s14 : zSK G s14 := by rw [e_s14]; exact zSK_A hS_s11 (zr (k := 30) (t2 := 87) hG ha rfl) rfl rfl rfl (by omega)
                    refine j_aload_n hx 0 dX12_judges_257 rfl ?_
                    refine g13_30 hx hG ha kf_RX12_65 dX12_judges_258 ?_
                    refine j_iconst hx dX12_judges_261 ?_
                    refine j_aload_n hx 0 dX12_judges_262 rfl ?_
                    refine g13_45 hx hG ha kf_RX12_99 dX12_judges_263 ?_
                    refine j_iload_n hx 1 dX12_judges_266 rfl ?_
                    have f13 := zaI (j := (v1).toNat) hS0 (zr (k := 45) (t2 := 98) hG ha rfl) rfl (zlen hG (zr (k := 45) (t2 := 98) hG ha rfl) (n := 3) rfl rfl) (show 0 ≤ v1 by omega) (by omega) rfl
                    refine j_iald hx hG (zr (k := 45) (t2 := 98) hG ha rfl) (by decide) rfl (zlen hG (zr (k := 45) (t2 := 98) hG ha rfl) (n := 3) rfl rfl) (by omega) (by omega) (j := (v1).toNat) rfl (v := (s0 (gP G a 45) (v1).toNat)) (by rw [e_s14, zU_at (Or.inl (zne (zr (k := 30) (t2 := 87) hG ha rfl) (zr (k := 45) (t2 := 98) hG ha rfl) (by decide))), e_s11, zU_at (Or.inl (zne (zr (k := 30) (t2 := 87) hG ha rfl) (zr (k := 45) (t2 := 98) hG ha rfl) (by decide))), (zFr_g hF_s7 (zr (k := 45) (t2 := 98) hG ha rfl) (by decide))]) dX12_judges_267 ?_
                    refine j_iast hx hG (zr (k := 30) (t2 := 87) hG ha rfl) (by decide) rfl (zlen hG (zr (k := 30) (t2 := 87) hG ha rfl) (n := 5) rfl rfl) (by omega) (by omega) (j := 2) rfl dX12_judges_268 ?_
                    obtain ⟨s15, e_s15⟩ : ∃ z, z = zU s14 (gP G a 30) 2 ((s0 (gP G a 45) (v1).toNat)) := ⟨_, rfl⟩
                    rw [← e_s15]
                    have hS_s15 : zSK G s15 := by rw [e_s15]; exact zSK_A hS_s14 (zr (k := 30) (t2 := 87) hG ha rfl) rfl rfl rfl (by omega)
                    refine j_iload hx 2 dX12_judges_269 rfl ?_
                    refine j_iconst hx dX12_judges_271 ?_
                    refine j_icmp_ne hx 287 dX12_judges_272 rfl ⟨by decide, by decide⟩ ⟨by decide, by decide⟩ (fun h14 => absurd h14 (by omega)) (fun h14 => ?_)
                    refine j_aload_n hx 0 dX12_judges_275 rfl ?_
                    refine j_iload_n hx 1 dX12_judges_276 rfl ?_
                    refine j_iconst hx dX12_judges_277 ?_
                    have g15 : zc (s15 (gP G a 27)) = zc (s0 (gP G a 27)) := by rw [e_s15, zU_ne (zne (zr (k := 30) (t2 := 87) hG ha rfl) (zr (k := 27) (t2 := 84) hG ha rfl) (by decide)), e_s14, zU_ne (zne (zr (k := 30) (t2 := 87) hG ha rfl) (zr (k := 27) (t2 := 84) hG ha rfl) (by decide)), e_s11, zU_ne (zne (zr (k := 30) (t2 := 87) hG ha rfl) (zr (k := 27) (t2 := 84) hG ha rfl) (by decide)), hF_s7 (gP G a 27) (by rw [(zr (k := 27) (t2 := 84) hG ha rfl)]; decide)]
                    have g16 : s15 (gP G a 27) 488 = s0 (gP G a 27) 488 := (by rw [e_s15, zU_at (Or.inl (zne (zr (k := 30) (t2 := 87) hG ha rfl) (zr (k := 27) (t2 := 84) hG ha rfl) (by decide))), e_s14, zU_at (Or.inl (zne (zr (k := 30) (t2 := 87) hG ha rfl) (zr (k := 27) (t2 := 84) hG ha rfl) (by decide))), e_s11, zU_at (Or.inl (zne (zr (k := 30) (t2 := 87) hG ha rfl) (zr (k := 27) (t2 := 84) hG ha rfl) (by decide))), (zFr_g hF_s7 (zr (k := 27) (t2 := 84) hG ha rfl) (by decide))])
                    refine j_callV hx hG (c_X12_counts hst a v1 3) lk_RX12_388 ha (by decide) rfl rfl rfl rfl [.int (zI v1), .int (zI 3)] ⟨rfl, hG, hS_s15, ha, (by omega), (by omega)⟩ rfl rfl ⟨by decide, by decide⟩ ⟨by decide, by decide⟩ (k2 := 0) (n2 := 0) rfl rfl (Nat.le_of_ble_eq_true rfl) dX12_judges_278 (kVM (fun s16 hS_s16 hF_s16 q18 => ?_))
                    refine j_aload_n hx 0 dX12_judges_281 rfl ?_
                    refine j_iload_n hx 1 dX12_judges_282 rfl ?_
                    refine j_callV hx hG (c_X12_falls hst a v1) lk_RX12_391 ha (by decide) rfl rfl rfl rfl [.int (zI v1)] ⟨rfl, hG, hS_s16, ha, (by omega), (by omega)⟩ rfl rfl ⟨by decide, by decide⟩ ⟨by decide, by decide⟩ (k2 := 0) (n2 := 0) rfl rfl (Nat.le_of_ble_eq_true rfl) dX12_judges_283 (kVM (fun s17 hS_s17 hF_s17 q20 => ?_))
                    exact j_vret hx hq rfl (by decide) (by decide) dX12_judges_286 ⟨rfl, rfl, hS_s17, (zFr_t (zFr_t (zFr_u (zFr_u (zFr_u (zFr_t zFr_rf hF_s7 (by decide)) e_s11 (zr (k := 30) (t2 := 87) hG ha rfl) (by decide)) e_s14 (zr (k := 30) (t2 := 87) hG ha rfl) (by decide)) e_s15 (zr (k := 30) (t2 := 87) hG ha rfl) (by decide)) hF_s16 (by decide)) hF_s17 (by decide)), ⟨by omega, by omega⟩⟩
                  refine j_icmp_le hx 250 dX12_judges_146 rfl (by omega) ⟨by decide, by decide⟩ (fun h21 => ?_) (fun h21 => ?_)
                  · skip
                    exact j_sub [1, 2, 0] [(0, .ref a), (1, .int (zI v1)), (4, .int (zI (-1)))] rfl (c250_12  (by omega))
                  · skip
                    refine j_aload_n hx 1 dX12_judges_149 rfl ?_
                    refine g13_27 hx hG ha kf_RX12_56 dX12_judges_150 ?_
                    refine j_sipush hx dX12_judges_153 rfl ?_
                    have f22 := zaQ (j := 492) hS0 (zr (k := 27) (t2 := 84) hG ha rfl) (congrArg some (axS_7 492 (by omega))) (zlen hG (zr (k := 27) (t2 := 84) hG ha rfl) (n := 515) rfl rfl) (show 0 ≤ 492 by omega) (by omega) rfl
                    refine j_iald hx hG (zr (k := 27) (t2 := 84) hG ha rfl) (by decide) rfl (zlen hG (zr (k := 27) (t2 := 84) hG ha rfl) (n := 515) rfl rfl) (by omega) (by omega) (j := 492) rfl (v := (s0 (gP G a 27) 492)) (by rw [e_s11, zU_at (Or.inl (zne (zr (k := 30) (t2 := 87) hG ha rfl) (zr (k := 27) (t2 := 84) hG ha rfl) (by decide))), (zFr_g hF_s7 (zr (k := 27) (t2 := 84) hG ha rfl) (by decide))]) dX12_judges_156 ?_
                    refine j_if_le hx 250 dX12_judges_157 rfl (by omega) (fun h23 => ?_) (fun h23 => ?_)
                    · skip
                      exact j_sub [1, 2, 0] [(0, .ref a), (1, .int (zI v1)), (4, .int (zI (-1)))] rfl (c250_12  (by omega))
                    · skip
                      refine j_iconst hx dX12_judges_160 ?_
                      refine j_istore hx [(5, .int (zI 0)), (4, .int (zI (-1))), (0, .ref a), (1, .int (zI v1)), (2, .int (zI v2)), (3, .int (zI v3))] dX12_judges_161 (by decide) rfl ?_
                      have g25 : zc (s11 (gP G a 27)) = zc (s0 (gP G a 27)) := by rw [e_s11, zU_ne (zne (zr (k := 30) (t2 := 87) hG ha rfl) (zr (k := 27) (t2 := 84) hG ha rfl) (by decide)), hF_s7 (gP G a 27) (by rw [(zr (k := 27) (t2 := 84) hG ha rfl)]; decide)]
                      have c163_18 : ∀ (m_c163_18 : Nat) (v24 : Int) (s19 : zS), 2147483648 - v24 < m_c163_18 → (0 ≤ v24 ∧ v24 ≤ 3) → (zSK G s19) → (zFr [84] G s11 s19) → (zc (s19 (gP G a 27)) = zc (s11 (gP G a 27))) → (s19 (gP G a 27) 488 = s11 (gP G a 27) 488) → JJ X E 6 G s19 0 0 [(0, .ref a), (1, .int (zI v1)), (4, .int (zI (-1))), (5, .int (zI v24))] 163 [] := by
                        intro m_c163_18
                        induction m_c163_18 with
                        | zero => intro v24 s19 hm_c163_18 fA20 hS_s19 hF_s19 fA23 fA24; exfalso; omega
                        | succ m_c163_18 ih_c163_18 => 
                          intro v24 s19 hm_c163_18 fA20 hS_s19 hF_s19 fA23 fA24
                          refine j_iload hx 3 dX12_judges_163 rfl ?_
                          refine j_aload_n hx 0 dX12_judges_165 rfl ?_
                          refine g13_24 hx hG ha kf_RX12_189 (v := (s0 a 24)) (by rw [(zFr_g hF_s19 ha (by decide)), e_s11, zU_at (Or.inl (zne (zr (k := 30) (t2 := 87) hG ha rfl) ha (by decide))), (zFr_g hF_s7 ha (by decide))]) dX12_judges_166 ?_
                          refine j_icmp_ge hx 201 dX12_judges_169 rfl (by omega) (by omega) (fun h26 => ?_) (fun h26 => ?_)
                          · skip
                            refine j_aload_n hx 0 dX12_judges_201 rfl ?_
                            refine g13_27 hx hG ha kf_RX12_56 dX12_judges_202 ?_
                            refine j_sipush hx dX12_judges_205 rfl ?_
                            have f27 := zaQ (j := 492) hS_s19 (zr (k := 27) (t2 := 84) hG ha rfl) (congrArg some (axS_7 492 (by omega))) (zlen hG (zr (k := 27) (t2 := 84) hG ha rfl) (n := 515) rfl rfl) (show 0 ≤ 492 by omega) (by omega) rfl
                            refine j_iald hx hG (zr (k := 27) (t2 := 84) hG ha rfl) (by decide) rfl (zlen hG (zr (k := 27) (t2 := 84) hG ha rfl) (n := 515) rfl rfl) (by omega) (by omega) (j := 492) rfl rfl dX12_judges_208 ?_
                            refine j_iconst hx dX12_judges_209 ?_
                            refine j_icmp_ne hx 249 dX12_judges_210 rfl (by omega) ⟨by decide, by decide⟩ (fun h28 => ?_) (fun h28 => ?_)
                            · skip
                              exact j_vret hx hq rfl (by decide) (by decide) dX12_judges_249 ⟨rfl, rfl, hS_s19, (zFr_t (zFr_u (zFr_t zFr_rf hF_s7 (by decide)) e_s11 (zr (k := 30) (t2 := 87) hG ha rfl) (by decide)) hF_s19 (by decide)), ⟨by omega, by omega⟩⟩
                            · skip
                              refine j_iload hx 2 dX12_judges_213 rfl ?_
                              refine j_iconst hx dX12_judges_215 ?_
                              refine j_icmp_eq hx 249 dX12_judges_216 rfl ⟨by decide, by decide⟩ ⟨by decide, by decide⟩ (fun h29 => ?_) (fun h29 => absurd h29 (by omega))
                              exact j_vret hx hq rfl (by decide) (by decide) dX12_judges_249 ⟨rfl, rfl, hS_s19, (zFr_t (zFr_u (zFr_t zFr_rf hF_s7 (by decide)) e_s11 (zr (k := 30) (t2 := 87) hG ha rfl) (by decide)) hF_s19 (by decide)), ⟨by omega, by omega⟩⟩
                          · skip
                            refine j_aload_n hx 0 dX12_judges_172 rfl ?_
                            refine g13_45 hx hG ha kf_RX12_99 dX12_judges_173 ?_
                            refine j_iload hx 3 dX12_judges_176 rfl ?_
                            have f30 := zaI (j := (v24).toNat) hS0 (zr (k := 45) (t2 := 98) hG ha rfl) rfl (zlen hG (zr (k := 45) (t2 := 98) hG ha rfl) (n := 3) rfl rfl) (show 0 ≤ v24 by omega) (by omega) rfl
                            refine j_iald hx hG (zr (k := 45) (t2 := 98) hG ha rfl) (by decide) rfl (zlen hG (zr (k := 45) (t2 := 98) hG ha rfl) (n := 3) rfl rfl) (by omega) (by omega) (j := (v24).toNat) rfl (v := (s0 (gP G a 45) (v24).toNat)) (by rw [(zFr_g hF_s19 (zr (k := 45) (t2 := 98) hG ha rfl) (by decide)), e_s11, zU_at (Or.inl (zne (zr (k := 30) (t2 := 87) hG ha rfl) (zr (k := 45) (t2 := 98) hG ha rfl) (by decide))), (zFr_g hF_s7 (zr (k := 45) (t2 := 98) hG ha rfl) (by decide))]) dX12_judges_178 ?_
                            refine j_aload_n hx 0 dX12_judges_179 rfl ?_
                            refine g13_45 hx hG ha kf_RX12_99 dX12_judges_180 ?_
                            refine j_iload_n hx 1 dX12_judges_183 rfl ?_
                            have f31 := zaI (j := (v1).toNat) hS0 (zr (k := 45) (t2 := 98) hG ha rfl) rfl (zlen hG (zr (k := 45) (t2 := 98) hG ha rfl) (n := 3) rfl rfl) (show 0 ≤ v1 by omega) (by omega) rfl
                            refine j_iald hx hG (zr (k := 45) (t2 := 98) hG ha rfl) (by decide) rfl (zlen hG (zr (k := 45) (t2 := 98) hG ha rfl) (n := 3) rfl rfl) (by omega) (by omega) (j := (v1).toNat) rfl (v := (s0 (gP G a 45) (v1).toNat)) (by rw [(zFr_g hF_s19 (zr (k := 45) (t2 := 98) hG ha rfl) (by decide)), e_s11, zU_at (Or.inl (zne (zr (k := 30) (t2 := 87) hG ha rfl) (zr (k := 45) (t2 := 98) hG ha rfl) (by decide))), (zFr_g hF_s7 (zr (k := 45) (t2 := 98) hG ha rfl) (by decide))]) dX12_judges_184 ?_
                            have c195_25 : ∀ (s26 : zS), (zSK G s26) → (zFr [84] G s19 s26) → (zc (s26 (gP G a 27)) = zc (s19 (gP G a 27))) → (s26 (gP G a 27) 488 = s19 (gP G a 27) 488) → JJ X E 6 G s26 0 0 [(0, .ref a), (1, .int (zI v1)), (4, .int (zI (-1))), (5, .int (zI v24))] 195 [] := by
                              intro s26 hS_s26 hF_s26 fA29 fA30
                              refine j_iinc hx 3 [(5, .int (zI (v24 + 1))), (0, .ref a), (1, .int (zI v1)), (4, .int (zI (-1)))] dX12_judges_195 rfl (by omega) (by decide) rfl ?_
                              refine j_goto hx 163 dX12_judges_198 rfl ?_
                              exact j_sub [1, 2, 3, 0] [(0, .ref a), (1, .int (zI v1)), (4, .int (zI (-1))), (5, .int (zI (v24 + 1)))] rfl (ih_c163_18 (v24 + 1) s26 (by omega) (by omega) hS_s26 (zFr_t (zFr_t zFr_rf hF_s19 (by decide)) hF_s26 (by decide)) (by omega) (by omega))
                            refine j_icmp_ne hx 195 dX12_judges_185 rfl (by omega) (by omega) (fun h32 => ?_) (fun h32 => ?_)
                            · skip
                              exact j_sub [0, 1, 2, 3] [(0, .ref a), (1, .int (zI v1)), (4, .int (zI (-1))), (5, .int (zI v24))] rfl (c195_25 s19 hS_s19 zFr_rf (by omega) (by omega))
                            · skip
                              refine j_aload_n hx 0 dX12_judges_188 rfl ?_
                              refine j_iload hx 3 dX12_judges_189 rfl ?_
                              refine j_iconst hx dX12_judges_191 ?_
                              refine j_callV hx hG (c_X12_counts hst a v24 4) lk_RX12_388 ha (by decide) rfl rfl rfl rfl [.int (zI v24), .int (zI 4)] ⟨rfl, hG, hS_s19, ha, (by omega), (by omega)⟩ rfl rfl ⟨by decide, by decide⟩ ⟨by decide, by decide⟩ (k2 := 0) (n2 := 0) rfl rfl (Nat.le_of_ble_eq_true rfl) dX12_judges_192 (kVM (fun s31 hS_s31 hF_s31 q34 => ?_))
                              exact j_sub [0, 1, 2, 3] [(0, .ref a), (1, .int (zI v1)), (4, .int (zI (-1))), (5, .int (zI v24))] rfl (c195_25 s31 hS_s31 (zFr_t zFr_rf hF_s31 (by decide)) (by omega) (by omega))
                      exact j_sub [2, 3, 1, 0] [(0, .ref a), (1, .int (zI v1)), (4, .int (zI (-1))), (5, .int (zI 0))] rfl (c163_18 (2147483648 * 4) 0 s11 (by omega) (by omega) hS_s11 zFr_rf (by omega) (by omega))
                · skip
                  refine j_iload_n hx 4 dX12_judges_144 rfl ?_
                  refine j_iconst hx dX12_judges_145 ?_
                  have g35 : s11 (gP G a 27) 488 = s0 (gP G a 27) 488 := (by rw [e_s11, zU_at (Or.inl (zne (zr (k := 30) (t2 := 87) hG ha rfl) (zr (k := 27) (t2 := 84) hG ha rfl) (by decide))), (zFr_g hF_s7 (zr (k := 27) (t2 := 84) hG ha rfl) (by decide))])
                  have c250_32 : (s11 (gP G a 27) 488 = s11 (gP G a 27) 488) → JJ X E 6 G s11 0 0 [(0, .ref a), (1, .int (zI v1)), (4, .int (zI 1))] 250 [] := by
                    intro  fA33
                    refine j_aload_n hx 0 dX12_judges_250 rfl ?_
                    refine g13_30 hx hG ha kf_RX12_65 dX12_judges_251 ?_
                    refine j_iconst hx dX12_judges_254 ?_
                    refine j_iload_n hx 1 dX12_judges_255 rfl ?_
                    refine j_iast hx hG (zr (k := 30) (t2 := 87) hG ha rfl) (by decide) rfl (zlen hG (zr (k := 30) (t2 := 87) hG ha rfl) (n := 5) rfl rfl) (by omega) (by omega) (j := 1) rfl dX12_judges_256 ?_
                    obtain ⟨s34, e_s34⟩ : ∃ z, z = zU s11 (gP G a 30) 1 v1 := ⟨_, rfl⟩
                    rw [← e_s34]
                    have hS_s34 : zSK G s34 := by rw [e_s34]; exact zSK_A hS_s11 (zr (k := 30) (t2 := 87) hG ha rfl) rfl rfl rfl (by omega)
                    refine j_aload_n hx 0 dX12_judges_257 rfl ?_
                    refine g13_30 hx hG ha kf_RX12_65 dX12_judges_258 ?_
                    refine j_iconst hx dX12_judges_261 ?_
                    refine j_aload_n hx 0 dX12_judges_262 rfl ?_
                    refine g13_45 hx hG ha kf_RX12_99 dX12_judges_263 ?_
                    refine j_iload_n hx 1 dX12_judges_266 rfl ?_
                    have f36 := zaI (j := (v1).toNat) hS0 (zr (k := 45) (t2 := 98) hG ha rfl) rfl (zlen hG (zr (k := 45) (t2 := 98) hG ha rfl) (n := 3) rfl rfl) (show 0 ≤ v1 by omega) (by omega) rfl
                    refine j_iald hx hG (zr (k := 45) (t2 := 98) hG ha rfl) (by decide) rfl (zlen hG (zr (k := 45) (t2 := 98) hG ha rfl) (n := 3) rfl rfl) (by omega) (by omega) (j := (v1).toNat) rfl (v := (s0 (gP G a 45) (v1).toNat)) (by rw [e_s34, zU_at (Or.inl (zne (zr (k := 30) (t2 := 87) hG ha rfl) (zr (k := 45) (t2 := 98) hG ha rfl) (by decide))), e_s11, zU_at (Or.inl (zne (zr (k := 30) (t2 := 87) hG ha rfl) (zr (k := 45) (t2 := 98) hG ha rfl) (by decide))), (zFr_g hF_s7 (zr (k := 45) (t2 := 98) hG ha rfl) (by decide))]) dX12_judges_267 ?_
                    refine j_iast hx hG (zr (k := 30) (t2 := 87) hG ha rfl) (by decide) rfl (zlen hG (zr (k := 30) (t2 := 87) hG ha rfl) (n := 5) rfl rfl) (by omega) (by omega) (j := 2) rfl dX12_judges_268 ?_
                    obtain ⟨s35, e_s35⟩ : ∃ z, z = zU s34 (gP G a 30) 2 ((s0 (gP G a 45) (v1).toNat)) := ⟨_, rfl⟩
                    rw [← e_s35]
                    have hS_s35 : zSK G s35 := by rw [e_s35]; exact zSK_A hS_s34 (zr (k := 30) (t2 := 87) hG ha rfl) rfl rfl rfl (by omega)
                    refine j_iload hx 2 dX12_judges_269 rfl ?_
                    refine j_iconst hx dX12_judges_271 ?_
                    refine j_icmp_ne hx 287 dX12_judges_272 rfl ⟨by decide, by decide⟩ ⟨by decide, by decide⟩ (fun h37 => ?_) (fun h37 => absurd h37 (by omega))
                    refine j_aload_n hx 0 dX12_judges_287 rfl ?_
                    have f38 := zf hS0 ha (k := 44) rfl
                    refine g13_44 hx hG ha kf_RX12_377 (v := (s0 a 44)) (by rw [e_s35, zU_at (Or.inl (zne (zr (k := 30) (t2 := 87) hG ha rfl) ha (by decide))), e_s34, zU_at (Or.inl (zne (zr (k := 30) (t2 := 87) hG ha rfl) ha (by decide))), e_s11, zU_at (Or.inl (zne (zr (k := 30) (t2 := 87) hG ha rfl) ha (by decide))), (zFr_g hF_s7 ha (by decide))]) dX12_judges_288 ?_
                    have g40 : s35 (gP G a 27) 488 = s0 (gP G a 27) 488 := (by rw [e_s35, zU_at (Or.inl (zne (zr (k := 30) (t2 := 87) hG ha rfl) (zr (k := 27) (t2 := 84) hG ha rfl) (by decide))), e_s34, zU_at (Or.inl (zne (zr (k := 30) (t2 := 87) hG ha rfl) (zr (k := 27) (t2 := 84) hG ha rfl) (by decide))), e_s11, zU_at (Or.inl (zne (zr (k := 30) (t2 := 87) hG ha rfl) (zr (k := 27) (t2 := 84) hG ha rfl) (by decide))), (zFr_g hF_s7 (zr (k := 27) (t2 := 84) hG ha rfl) (by decide))])
                    have c312_36 : ∀ (v39 : Int), (0 ≤ v39 ∧ v39 ≤ 1) → (s35 (gP G a 27) 488 = s35 (gP G a 27) 488) → JJ X E 6 G s35 0 0 [(0, .ref a), (1, .int (zI v1)), (4, .int (zI 1))] 312 [.int (zI v39)] := by
                      intro v39 fA37 fA38
                      refine j_istore hx [(5, .int (zI v39)), (0, .ref a), (1, .int (zI v1)), (4, .int (zI 1))] dX12_judges_312 (by decide) rfl ?_
                      refine j_aload_n hx 1 dX12_judges_314 rfl ?_
                      refine j_iload_n hx 2 dX12_judges_315 rfl ?_
                      refine j_aload_n hx 1 dX12_judges_316 rfl ?_
                      refine g13_45 hx hG ha kf_RX12_99 dX12_judges_317 ?_
                      refine j_iload_n hx 2 dX12_judges_320 rfl ?_
                      refine j_iald hx hG (zr (k := 45) (t2 := 98) hG ha rfl) (by decide) rfl (zlen hG (zr (k := 45) (t2 := 98) hG ha rfl) (n := 3) rfl rfl) (by omega) (by omega) (j := (v1).toNat) rfl (v := (s0 (gP G a 45) (v1).toNat)) (by rw [e_s35, zU_at (Or.inl (zne (zr (k := 30) (t2 := 87) hG ha rfl) (zr (k := 45) (t2 := 98) hG ha rfl) (by decide))), e_s34, zU_at (Or.inl (zne (zr (k := 30) (t2 := 87) hG ha rfl) (zr (k := 45) (t2 := 98) hG ha rfl) (by decide))), e_s11, zU_at (Or.inl (zne (zr (k := 30) (t2 := 87) hG ha rfl) (zr (k := 45) (t2 := 98) hG ha rfl) (by decide))), (zFr_g hF_s7 (zr (k := 45) (t2 := 98) hG ha rfl) (by decide))]) dX12_judges_321 ?_
                      have g42 : s35 (gP G a 27) 488 = s0 (gP G a 27) 488 := (by rw [e_s35, zU_at (Or.inl (zne (zr (k := 30) (t2 := 87) hG ha rfl) (zr (k := 27) (t2 := 84) hG ha rfl) (by decide))), e_s34, zU_at (Or.inl (zne (zr (k := 30) (t2 := 87) hG ha rfl) (zr (k := 27) (t2 := 84) hG ha rfl) (by decide))), e_s11, zU_at (Or.inl (zne (zr (k := 30) (t2 := 87) hG ha rfl) (zr (k := 27) (t2 := 84) hG ha rfl) (by decide))), (zFr_g hF_s7 (zr (k := 27) (t2 := 84) hG ha rfl) (by decide))])
                      have c339_39 : ∀ (v41 : Int), (0 ≤ v41 ∧ v41 ≤ 2) → (s35 (gP G a 27) 488 = s35 (gP G a 27) 488) → JJ X E 6 G s35 0 0 [(0, .ref a), (1, .int (zI v1)), (4, .int (zI 1))] 339 [.int (zI v41), .int (zI v1), .ref a] := by
                        intro v41 fA40 fA41
                        have g43 : zc (s35 (gP G a 27)) = zc (s0 (gP G a 27)) := by rw [e_s35, zU_ne (zne (zr (k := 30) (t2 := 87) hG ha rfl) (zr (k := 27) (t2 := 84) hG ha rfl) (by decide)), e_s34, zU_ne (zne (zr (k := 30) (t2 := 87) hG ha rfl) (zr (k := 27) (t2 := 84) hG ha rfl) (by decide)), e_s11, zU_ne (zne (zr (k := 30) (t2 := 87) hG ha rfl) (zr (k := 27) (t2 := 84) hG ha rfl) (by decide)), hF_s7 (gP G a 27) (by rw [(zr (k := 27) (t2 := 84) hG ha rfl)]; decide)]
                        have g44 : s35 (gP G a 27) 488 = s0 (gP G a 27) 488 := (by rw [e_s35, zU_at (Or.inl (zne (zr (k := 30) (t2 := 87) hG ha rfl) (zr (k := 27) (t2 := 84) hG ha rfl) (by decide))), e_s34, zU_at (Or.inl (zne (zr (k := 30) (t2 := 87) hG ha rfl) (zr (k := 27) (t2 := 84) hG ha rfl) (by decide))), e_s11, zU_at (Or.inl (zne (zr (k := 30) (t2 := 87) hG ha rfl) (zr (k := 27) (t2 := 84) hG ha rfl) (by decide))), (zFr_g hF_s7 (zr (k := 27) (t2 := 84) hG ha rfl) (by decide))])
                        refine j_callV hx hG (c_X12_counts hst a v1 v41) lk_RX12_388 ha (by decide) rfl rfl rfl rfl [.int (zI v1), .int (zI v41)] ⟨rfl, hG, hS_s35, ha, (by omega), (by omega)⟩ rfl rfl ⟨by decide, by decide⟩ ⟨by decide, by decide⟩ (k2 := 0) (n2 := 0) rfl rfl (Nat.le_of_ble_eq_true rfl) dX12_judges_339 (kVM (fun s42 hS_s42 hF_s42 q46 => ?_))
                        refine j_aload_n hx 0 dX12_judges_342 rfl ?_
                        refine g13_30 hx hG ha kf_RX12_65 dX12_judges_343 ?_
                        refine j_iconst hx dX12_judges_346 ?_
                        refine j_iload_n hx 1 dX12_judges_347 rfl ?_
                        refine j_iast hx hG (zr (k := 30) (t2 := 87) hG ha rfl) (by decide) rfl (zlen hG (zr (k := 30) (t2 := 87) hG ha rfl) (n := 5) rfl rfl) (by omega) (by omega) (j := 0) rfl dX12_judges_348 ?_
                        obtain ⟨s43, e_s43⟩ : ∃ z, z = zU s42 (gP G a 30) 0 v1 := ⟨_, rfl⟩
                        rw [← e_s43]
                        have hS_s43 : zSK G s43 := by rw [e_s43]; exact zSK_A hS_s42 (zr (k := 30) (t2 := 87) hG ha rfl) rfl rfl rfl (by omega)
                        refine j_aload_n hx 0 dX12_judges_349 rfl ?_
                        refine g13_30 hx hG ha kf_RX12_65 dX12_judges_350 ?_
                        refine j_iconst hx dX12_judges_353 ?_
                        refine j_aload_n hx 0 dX12_judges_354 rfl ?_
                        refine j_iload_n hx 1 dX12_judges_355 rfl ?_
                        refine j_iload hx 2 dX12_judges_356 rfl ?_
                        have g47 : zc (s43 (gP G a 27)) = zc (s42 (gP G a 27)) := by rw [e_s43, zU_ne (zne (zr (k := 30) (t2 := 87) hG ha rfl) (zr (k := 27) (t2 := 84) hG ha rfl) (by decide))]
                        have g48 : s43 (gP G a 27) 488 = s42 (gP G a 27) 488 := (by rw [e_s43, zU_at (Or.inl (zne (zr (k := 30) (t2 := 87) hG ha rfl) (zr (k := 27) (t2 := 84) hG ha rfl) (by decide)))])
                        refine j_callV hx hG (c_X12_wins hst a v1 1) lk_RX12_394 ha (by decide) rfl rfl rfl rfl [.int (zI v1), .int (zI 1)] ⟨rfl, hG, hS_s43, ha, (by omega), (by omega), (by omega), (by omega)⟩ rfl rfl ⟨by decide, by decide⟩ ⟨by decide, by decide⟩ (k2 := 0) (n2 := 0) rfl rfl (Nat.le_of_ble_eq_true rfl) dX12_judges_358 (kIM (fun v49 s44 hS_s44 hF_s44 q50 => ?_))
                        refine j_iast hx hG (zr (k := 30) (t2 := 87) hG ha rfl) (by decide) rfl (zlen hG (zr (k := 30) (t2 := 87) hG ha rfl) (n := 5) rfl rfl) (by omega) (by omega) (j := 4) rfl dX12_judges_361 ?_
                        obtain ⟨s45, e_s45⟩ : ∃ z, z = zU s44 (gP G a 30) 4 v49 := ⟨_, rfl⟩
                        rw [← e_s45]
                        have hS_s45 : zSK G s45 := by rw [e_s45]; exact zSK_A hS_s44 (zr (k := 30) (t2 := 87) hG ha rfl) rfl rfl rfl (by omega)
                        refine j_aload_n hx 0 dX12_judges_362 rfl ?_
                        refine g13_27 hx hG ha kf_RX12_56 dX12_judges_363 ?_
                        refine j_sipush hx dX12_judges_366 rfl ?_
                        refine j_iload_n hx 1 dX12_judges_369 rfl ?_
                        refine j_iadd hx (r := v1 + 512) dX12_judges_370 (by omega) ?_
                        refine j_dup2 hx dX12_judges_371 rfl rfl ?_
                        have f51 := zaQ (j := (v1 + 512).toNat) hS_s44 (zr (k := 27) (t2 := 84) hG ha rfl) (congrArg some (axS_8 (v1 + 512).toNat (by omega))) (zlen hG (zr (k := 27) (t2 := 84) hG ha rfl) (n := 515) rfl rfl) (show 0 ≤ v1 + 512 by omega) (by omega) rfl
                        refine j_iald hx hG (zr (k := 27) (t2 := 84) hG ha rfl) (by decide) rfl (zlen hG (zr (k := 27) (t2 := 84) hG ha rfl) (n := 515) rfl rfl) (by omega) (by omega) (j := (v1 + 512).toNat) rfl (v := (s44 (gP G a 27) (v1 + 512).toNat)) (by rw [e_s45, zU_at (Or.inl (zne (zr (k := 30) (t2 := 87) hG ha rfl) (zr (k := 27) (t2 := 84) hG ha rfl) (by decide)))]) dX12_judges_372 ?_
                        refine j_aload_n hx 0 dX12_judges_373 rfl ?_
                        refine g13_30 hx hG ha kf_RX12_65 dX12_judges_374 ?_
                        refine j_iconst hx dX12_judges_377 ?_
                        refine j_iald hx hG (zr (k := 30) (t2 := 87) hG ha rfl) (by decide) rfl (zlen hG (zr (k := 30) (t2 := 87) hG ha rfl) (n := 5) rfl rfl) (by omega) (by omega) (j := 4) rfl (v := v49) (by rw [e_s45, zU_eq]) dX12_judges_378 ?_
                        refine j_iadd hx (r := (s44 (gP G a 27) (v1 + 512).toNat) + v49) dX12_judges_379 (by omega) ?_
                        refine j_norm (fun v52 f53 f54 f55 => ?_)
                        refine j_iast hx hG (zr (k := 27) (t2 := 84) hG ha rfl) (by decide) rfl (zlen hG (zr (k := 27) (t2 := 84) hG ha rfl) (n := 515) rfl rfl) (by omega) (by omega) (j := (v1 + 512).toNat) rfl dX12_judges_380 ?_
                        obtain ⟨s46, e_s46⟩ : ∃ z, z = zU s45 (gP G a 27) (v1 + 512).toNat v52 := ⟨_, rfl⟩
                        rw [← e_s46]
                        have hS_s46 : zSK G s46 := by rw [e_s46]; exact zSK_a hS_s45 (zr (k := 27) (t2 := 84) hG ha rfl) rfl rfl (congrArg some (axS_8 (v1 + 512).toNat (by omega))) (by omega)
                        have g57 : zc (s45 (gP G a 27)) = zc (s44 (gP G a 27)) := by rw [e_s45, zU_ne (zne (zr (k := 30) (t2 := 87) hG ha rfl) (zr (k := 27) (t2 := 84) hG ha rfl) (by decide))]
                        have z56 : zc (s46 (gP G a 27)) = zc (s45 (gP G a 27)) := by rw [e_s46]; exact zc_o (by omega)
                        have g58 : s46 (gP G a 27) 488 = s44 (gP G a 27) 488 := (by rw [e_s46, zU_at (Or.inr (by omega)), e_s45, zU_at (Or.inl (zne (zr (k := 30) (t2 := 87) hG ha rfl) (zr (k := 27) (t2 := 84) hG ha rfl) (by decide)))])
                        exact j_vret hx hq rfl (by decide) (by decide) dX12_judges_381 ⟨rfl, rfl, hS_s46, (zFr_u (zFr_u (zFr_t (zFr_u (zFr_t (zFr_u (zFr_u (zFr_u (zFr_t zFr_rf hF_s7 (by decide)) e_s11 (zr (k := 30) (t2 := 87) hG ha rfl) (by decide)) e_s34 (zr (k := 30) (t2 := 87) hG ha rfl) (by decide)) e_s35 (zr (k := 30) (t2 := 87) hG ha rfl) (by decide)) hF_s42 (by decide)) e_s43 (zr (k := 30) (t2 := 87) hG ha rfl) (by decide)) hF_s44 (by decide)) e_s45 (zr (k := 30) (t2 := 87) hG ha rfl) (by decide)) e_s46 (zr (k := 27) (t2 := 84) hG ha rfl) (by decide)), ⟨by omega, by omega⟩⟩
                      refine j_if_lt hx 329 dX12_judges_322 rfl (by omega) (fun h59 => ?_) (fun h59 => ?_)
                      · skip
                        refine j_iload hx 0 dX12_judges_329 rfl ?_
                        refine j_if_eq hx 338 dX12_judges_331 rfl (by omega) (fun h60 => ?_) (fun h60 => ?_)
                        · skip
                          refine j_iconst hx dX12_judges_338 ?_
                          exact j_sub [1, 2, 3] [(0, .ref a), (1, .int (zI v1)), (4, .int (zI 1))] rfl (c339_39 1 (by omega) (by omega))
                        · skip
                          refine j_iconst hx dX12_judges_334 ?_
                          refine j_goto hx 339 dX12_judges_335 rfl ?_
                          exact j_sub [1, 2, 3] [(0, .ref a), (1, .int (zI v1)), (4, .int (zI 1))] rfl (c339_39 2 (by omega) (by omega))
                      · skip
                        refine j_iconst hx dX12_judges_325 ?_
                        refine j_goto hx 339 dX12_judges_326 rfl ?_
                        exact j_sub [1, 2, 3] [(0, .ref a), (1, .int (zI v1)), (4, .int (zI 1))] rfl (c339_39 0 (by omega) (by omega))
                    have c311_47 : (s35 (gP G a 27) 488 = s35 (gP G a 27) 488) → JJ X E 6 G s35 0 0 [(0, .ref a), (1, .int (zI v1)), (4, .int (zI 1))] 311 [] := by
                      intro  fA48
                      refine j_iconst hx dX12_judges_311 ?_
                      exact j_sub [0, 1, 2] [(0, .ref a), (1, .int (zI v1)), (4, .int (zI 1))] rfl (c312_36 0 (by omega) (by omega))
                    refine j_if_eq hx 311 dX12_judges_291 rfl (by omega) (fun h61 => ?_) (fun h61 => ?_)
                    · skip
                      exact j_sub [0, 1, 2] [(0, .ref a), (1, .int (zI v1)), (4, .int (zI 1))] rfl (c311_47  (by omega))
                    · skip
                      refine j_aload_n hx 0 dX12_judges_294 rfl ?_
                      refine g13_17 hx hG ha kf_RX12_44 dX12_judges_295 ?_
                      refine j_iconst hx dX12_judges_298 ?_
                      refine j_iload_n hx 1 dX12_judges_299 rfl ?_
                      refine j_imul hx (r := 4 * v1) dX12_judges_300 rfl ?_
                      refine j_iconst hx dX12_judges_301 ?_
                      refine j_iadd hx (r := 4 * v1 + 1) dX12_judges_302 (by omega) ?_
                      have f62 := zaI (j := (4 * v1 + 1).toNat) hS0 (zr (k := 17) (t2 := 80) hG ha rfl) rfl (zlen hG (zr (k := 17) (t2 := 80) hG ha rfl) (n := 12) rfl rfl) (show 0 ≤ 4 * v1 + 1 by omega) (by omega) rfl
                      refine j_iald hx hG (zr (k := 17) (t2 := 80) hG ha rfl) (by decide) rfl (zlen hG (zr (k := 17) (t2 := 80) hG ha rfl) (n := 12) rfl rfl) (by omega) (by omega) (j := (4 * v1 + 1).toNat) rfl (v := (s0 (gP G a 17) (4 * v1 + 1).toNat)) (by rw [e_s35, zU_at (Or.inl (zne (zr (k := 30) (t2 := 87) hG ha rfl) (zr (k := 17) (t2 := 80) hG ha rfl) (by decide))), e_s34, zU_at (Or.inl (zne (zr (k := 30) (t2 := 87) hG ha rfl) (zr (k := 17) (t2 := 80) hG ha rfl) (by decide))), e_s11, zU_at (Or.inl (zne (zr (k := 30) (t2 := 87) hG ha rfl) (zr (k := 17) (t2 := 80) hG ha rfl) (by decide))), (zFr_g hF_s7 (zr (k := 17) (t2 := 80) hG ha rfl) (by decide))]) dX12_judges_303 ?_
                      refine j_if_le hx 311 dX12_judges_304 rfl (by omega) (fun h63 => ?_) (fun h63 => ?_)
                      · skip
                        exact j_sub [0, 1, 2] [(0, .ref a), (1, .int (zI v1)), (4, .int (zI 1))] rfl (c311_47  (by omega))
                      · skip
                        refine j_iconst hx dX12_judges_307 ?_
                        refine j_goto hx 312 dX12_judges_308 rfl ?_
                        exact j_sub [0, 1, 2] [(0, .ref a), (1, .int (zI v1)), (4, .int (zI 1))] rfl (c312_36 1 (by omega) (by omega))
                  refine j_icmp_le hx 250 dX12_judges_146 rfl (by omega) ⟨by decide, by decide⟩ (fun h64 => ?_) (fun h64 => ?_)
                  · skip
                    exact j_sub [1, 2, 0] [(0, .ref a), (1, .int (zI v1)), (4, .int (zI 1))] rfl (c250_32  (by omega))
                  · skip
                    refine j_aload_n hx 1 dX12_judges_149 rfl ?_
                    refine g13_27 hx hG ha kf_RX12_56 dX12_judges_150 ?_
                    refine j_sipush hx dX12_judges_153 rfl ?_
                    have f65 := zaQ (j := 492) hS0 (zr (k := 27) (t2 := 84) hG ha rfl) (congrArg some (axS_7 492 (by omega))) (zlen hG (zr (k := 27) (t2 := 84) hG ha rfl) (n := 515) rfl rfl) (show 0 ≤ 492 by omega) (by omega) rfl
                    refine j_iald hx hG (zr (k := 27) (t2 := 84) hG ha rfl) (by decide) rfl (zlen hG (zr (k := 27) (t2 := 84) hG ha rfl) (n := 515) rfl rfl) (by omega) (by omega) (j := 492) rfl (v := (s0 (gP G a 27) 492)) (by rw [e_s11, zU_at (Or.inl (zne (zr (k := 30) (t2 := 87) hG ha rfl) (zr (k := 27) (t2 := 84) hG ha rfl) (by decide))), (zFr_g hF_s7 (zr (k := 27) (t2 := 84) hG ha rfl) (by decide))]) dX12_judges_156 ?_
                    refine j_if_le hx 250 dX12_judges_157 rfl (by omega) (fun h66 => ?_) (fun h66 => ?_)
                    · skip
                      exact j_sub [1, 2, 0] [(0, .ref a), (1, .int (zI v1)), (4, .int (zI 1))] rfl (c250_32  (by omega))
                    · skip
                      refine j_iconst hx dX12_judges_160 ?_
                      refine j_istore hx [(5, .int (zI 0)), (4, .int (zI 1)), (0, .ref a), (1, .int (zI v1)), (2, .int (zI v2)), (3, .int (zI v3))] dX12_judges_161 (by decide) rfl ?_
                      have g68 : zc (s11 (gP G a 27)) = zc (s0 (gP G a 27)) := by rw [e_s11, zU_ne (zne (zr (k := 30) (t2 := 87) hG ha rfl) (zr (k := 27) (t2 := 84) hG ha rfl) (by decide)), hF_s7 (gP G a 27) (by rw [(zr (k := 27) (t2 := 84) hG ha rfl)]; decide)]
                      have c163_49 : ∀ (m_c163_49 : Nat) (v67 : Int) (s50 : zS), 2147483648 - v67 < m_c163_49 → (0 ≤ v67 ∧ v67 ≤ 3) → (zSK G s50) → (zFr [84] G s11 s50) → (zc (s50 (gP G a 27)) = zc (s11 (gP G a 27))) → (s50 (gP G a 27) 488 = s11 (gP G a 27) 488) → JJ X E 6 G s50 0 0 [(0, .ref a), (1, .int (zI v1)), (4, .int (zI 1)), (5, .int (zI v67))] 163 [] := by
                        intro m_c163_49
                        induction m_c163_49 with
                        | zero => intro v67 s50 hm_c163_49 fA51 hS_s50 hF_s50 fA54 fA55; exfalso; omega
                        | succ m_c163_49 ih_c163_49 => 
                          intro v67 s50 hm_c163_49 fA51 hS_s50 hF_s50 fA54 fA55
                          refine j_iload hx 3 dX12_judges_163 rfl ?_
                          refine j_aload_n hx 0 dX12_judges_165 rfl ?_
                          refine g13_24 hx hG ha kf_RX12_189 (v := (s0 a 24)) (by rw [(zFr_g hF_s50 ha (by decide)), e_s11, zU_at (Or.inl (zne (zr (k := 30) (t2 := 87) hG ha rfl) ha (by decide))), (zFr_g hF_s7 ha (by decide))]) dX12_judges_166 ?_
                          refine j_icmp_ge hx 201 dX12_judges_169 rfl (by omega) (by omega) (fun h69 => ?_) (fun h69 => ?_)
                          · skip
                            refine j_aload_n hx 0 dX12_judges_201 rfl ?_
                            refine g13_27 hx hG ha kf_RX12_56 dX12_judges_202 ?_
                            refine j_sipush hx dX12_judges_205 rfl ?_
                            have f70 := zaQ (j := 492) hS_s50 (zr (k := 27) (t2 := 84) hG ha rfl) (congrArg some (axS_7 492 (by omega))) (zlen hG (zr (k := 27) (t2 := 84) hG ha rfl) (n := 515) rfl rfl) (show 0 ≤ 492 by omega) (by omega) rfl
                            refine j_iald hx hG (zr (k := 27) (t2 := 84) hG ha rfl) (by decide) rfl (zlen hG (zr (k := 27) (t2 := 84) hG ha rfl) (n := 515) rfl rfl) (by omega) (by omega) (j := 492) rfl rfl dX12_judges_208 ?_
                            refine j_iconst hx dX12_judges_209 ?_
                            refine j_icmp_ne hx 249 dX12_judges_210 rfl (by omega) ⟨by decide, by decide⟩ (fun h71 => ?_) (fun h71 => ?_)
                            · skip
                              exact j_vret hx hq rfl (by decide) (by decide) dX12_judges_249 ⟨rfl, rfl, hS_s50, (zFr_t (zFr_u (zFr_t zFr_rf hF_s7 (by decide)) e_s11 (zr (k := 30) (t2 := 87) hG ha rfl) (by decide)) hF_s50 (by decide)), ⟨by omega, by omega⟩⟩
                            · skip
                              refine j_iload hx 2 dX12_judges_213 rfl ?_
                              refine j_iconst hx dX12_judges_215 ?_
                              refine j_icmp_eq hx 249 dX12_judges_216 rfl ⟨by decide, by decide⟩ ⟨by decide, by decide⟩ (fun h72 => absurd h72 (by omega)) (fun h72 => ?_)
                              refine j_aload_n hx 0 dX12_judges_219 rfl ?_
                              refine j_iload hx 2 dX12_judges_220 rfl ?_
                              refine j_bipush hx dX12_judges_222 rfl ?_
                              refine j_idiv hx dX12_judges_224 ⟨by decide, by decide⟩ ⟨by decide, by decide⟩ (by decide) (fun v73 f74 f75 f76 => ?_)
                              obtain rfl : v73 = 0 := by omega
                              refine j_sipush hx dX12_judges_225 rfl ?_
                              refine j_sipush hx dX12_judges_228 rfl ?_
                              have g79 : s50 (gP G a 27) (Int.toNat 486) = s50 (gP G a 27) 486 := rfl
                              refine j_callV hx hG (c_X12_comes hst a 0 360 486) lk_RX12_365 ha (by decide) rfl rfl rfl rfl [.int (zI 0), .int (zI 360), .int (zI 486)] ⟨rfl, hG, hS_s50, ha, (by omega), (by omega), (by omega), (by omega), (by omega)⟩ rfl rfl ⟨by decide, by decide⟩ ⟨by decide, by decide⟩ (k2 := 0) (n2 := 0) rfl rfl (Nat.le_of_ble_eq_true rfl) dX12_judges_231 (kVM (fun s56 hS_s56 hF_s56 q81 => ?_))
                              refine j_aload_n hx 0 dX12_judges_234 rfl ?_
                              refine j_iload hx 2 dX12_judges_235 rfl ?_
                              refine j_bipush hx dX12_judges_237 rfl ?_
                              refine j_irem hx dX12_judges_239 ⟨by decide, by decide⟩ ⟨by decide, by decide⟩ (by decide) (fun v82 f83 f84 f85 f86 => ?_)
                              obtain rfl : v82 = 1 := by omega
                              refine j_sipush hx dX12_judges_240 rfl ?_
                              refine j_sipush hx dX12_judges_243 rfl ?_
                              have g88 : s56 (gP G a 27) (Int.toNat 486) = s56 (gP G a 27) 486 := rfl
                              refine j_callV hx hG (c_X12_comes hst a 1 360 486) lk_RX12_365 ha (by decide) rfl rfl rfl rfl [.int (zI 1), .int (zI 360), .int (zI 486)] ⟨rfl, hG, hS_s56, ha, (by omega), (by omega), (by omega), (by omega), (by omega)⟩ rfl rfl ⟨by decide, by decide⟩ ⟨by decide, by decide⟩ (k2 := 0) (n2 := 0) rfl rfl (Nat.le_of_ble_eq_true rfl) dX12_judges_246 (kVM (fun s57 hS_s57 hF_s57 q90 => ?_))
                              exact j_vret hx hq rfl (by decide) (by decide) dX12_judges_249 ⟨rfl, rfl, hS_s57, (zFr_t (zFr_t (zFr_t (zFr_u (zFr_t zFr_rf hF_s7 (by decide)) e_s11 (zr (k := 30) (t2 := 87) hG ha rfl) (by decide)) hF_s50 (by decide)) hF_s56 (by decide)) hF_s57 (by decide)), ⟨by omega, by omega⟩⟩
                          · skip
                            refine j_aload_n hx 0 dX12_judges_172 rfl ?_
                            refine g13_45 hx hG ha kf_RX12_99 dX12_judges_173 ?_
                            refine j_iload hx 3 dX12_judges_176 rfl ?_
                            have f91 := zaI (j := (v67).toNat) hS0 (zr (k := 45) (t2 := 98) hG ha rfl) rfl (zlen hG (zr (k := 45) (t2 := 98) hG ha rfl) (n := 3) rfl rfl) (show 0 ≤ v67 by omega) (by omega) rfl
                            refine j_iald hx hG (zr (k := 45) (t2 := 98) hG ha rfl) (by decide) rfl (zlen hG (zr (k := 45) (t2 := 98) hG ha rfl) (n := 3) rfl rfl) (by omega) (by omega) (j := (v67).toNat) rfl (v := (s0 (gP G a 45) (v67).toNat)) (by rw [(zFr_g hF_s50 (zr (k := 45) (t2 := 98) hG ha rfl) (by decide)), e_s11, zU_at (Or.inl (zne (zr (k := 30) (t2 := 87) hG ha rfl) (zr (k := 45) (t2 := 98) hG ha rfl) (by decide))), (zFr_g hF_s7 (zr (k := 45) (t2 := 98) hG ha rfl) (by decide))]) dX12_judges_178 ?_
                            refine j_aload_n hx 0 dX12_judges_179 rfl ?_
                            refine g13_45 hx hG ha kf_RX12_99 dX12_judges_180 ?_
                            refine j_iload_n hx 1 dX12_judges_183 rfl ?_
                            have f92 := zaI (j := (v1).toNat) hS0 (zr (k := 45) (t2 := 98) hG ha rfl) rfl (zlen hG (zr (k := 45) (t2 := 98) hG ha rfl) (n := 3) rfl rfl) (show 0 ≤ v1 by omega) (by omega) rfl
                            refine j_iald hx hG (zr (k := 45) (t2 := 98) hG ha rfl) (by decide) rfl (zlen hG (zr (k := 45) (t2 := 98) hG ha rfl) (n := 3) rfl rfl) (by omega) (by omega) (j := (v1).toNat) rfl (v := (s0 (gP G a 45) (v1).toNat)) (by rw [(zFr_g hF_s50 (zr (k := 45) (t2 := 98) hG ha rfl) (by decide)), e_s11, zU_at (Or.inl (zne (zr (k := 30) (t2 := 87) hG ha rfl) (zr (k := 45) (t2 := 98) hG ha rfl) (by decide))), (zFr_g hF_s7 (zr (k := 45) (t2 := 98) hG ha rfl) (by decide))]) dX12_judges_184 ?_
                            have c195_58 : ∀ (s59 : zS), (zSK G s59) → (zFr [84] G s50 s59) → (zc (s59 (gP G a 27)) = zc (s50 (gP G a 27))) → (s59 (gP G a 27) 488 = s50 (gP G a 27) 488) → JJ X E 6 G s59 0 0 [(0, .ref a), (1, .int (zI v1)), (4, .int (zI 1)), (5, .int (zI v67))] 195 [] := by
                              intro s59 hS_s59 hF_s59 fA62 fA63
                              refine j_iinc hx 3 [(5, .int (zI (v67 + 1))), (0, .ref a), (1, .int (zI v1)), (4, .int (zI 1))] dX12_judges_195 rfl (by omega) (by decide) rfl ?_
                              refine j_goto hx 163 dX12_judges_198 rfl ?_
                              exact j_sub [1, 2, 3, 0] [(0, .ref a), (1, .int (zI v1)), (4, .int (zI 1)), (5, .int (zI (v67 + 1)))] rfl (ih_c163_49 (v67 + 1) s59 (by omega) (by omega) hS_s59 (zFr_t (zFr_t zFr_rf hF_s50 (by decide)) hF_s59 (by decide)) (by omega) (by omega))
                            refine j_icmp_ne hx 195 dX12_judges_185 rfl (by omega) (by omega) (fun h93 => ?_) (fun h93 => ?_)
                            · skip
                              exact j_sub [0, 1, 2, 3] [(0, .ref a), (1, .int (zI v1)), (4, .int (zI 1)), (5, .int (zI v67))] rfl (c195_58 s50 hS_s50 zFr_rf (by omega) (by omega))
                            · skip
                              refine j_aload_n hx 0 dX12_judges_188 rfl ?_
                              refine j_iload hx 3 dX12_judges_189 rfl ?_
                              refine j_iconst hx dX12_judges_191 ?_
                              refine j_callV hx hG (c_X12_counts hst a v67 4) lk_RX12_388 ha (by decide) rfl rfl rfl rfl [.int (zI v67), .int (zI 4)] ⟨rfl, hG, hS_s50, ha, (by omega), (by omega)⟩ rfl rfl ⟨by decide, by decide⟩ ⟨by decide, by decide⟩ (k2 := 0) (n2 := 0) rfl rfl (Nat.le_of_ble_eq_true rfl) dX12_judges_192 (kVM (fun s64 hS_s64 hF_s64 q95 => ?_))
                              exact j_sub [0, 1, 2, 3] [(0, .ref a), (1, .int (zI v1)), (4, .int (zI 1)), (5, .int (zI v67))] rfl (c195_58 s64 hS_s64 (zFr_t zFr_rf hF_s64 (by decide)) (by omega) (by omega))
                      exact j_sub [2, 3, 1, 0] [(0, .ref a), (1, .int (zI v1)), (4, .int (zI 1)), (5, .int (zI 0))] rfl (c163_49 (2147483648 * 4) 0 s11 (by omega) (by omega) hS_s11 zFr_rf (by omega) (by omega))
                · skip
                  refine j_iload_n hx 4 dX12_judges_144 rfl ?_
                  refine j_iconst hx dX12_judges_145 ?_
                  have g96 : s11 (gP G a 27) 488 = s0 (gP G a 27) 488 := (by rw [e_s11, zU_at (Or.inl (zne (zr (k := 30) (t2 := 87) hG ha rfl) (zr (k := 27) (t2 := 84) hG ha rfl) (by decide))), (zFr_g hF_s7 (zr (k := 27) (t2 := 84) hG ha rfl) (by decide))])
                  have c250_65 : (s11 (gP G a 27) 488 = s11 (gP G a 27) 488) → JJ X E 6 G s11 0 0 [(0, .ref a), (1, .int (zI v1)), (4, .int (zI 2))] 250 [] := by
                    intro  fA66
                    refine j_aload_n hx 0 dX12_judges_250 rfl ?_
                    refine g13_30 hx hG ha kf_RX12_65 dX12_judges_251 ?_
                    refine j_iconst hx dX12_judges_254 ?_
                    refine j_iload_n hx 1 dX12_judges_255 rfl ?_
                    refine j_iast hx hG (zr (k := 30) (t2 := 87) hG ha rfl) (by decide) rfl (zlen hG (zr (k := 30) (t2 := 87) hG ha rfl) (n := 5) rfl rfl) (by omega) (by omega) (j := 1) rfl dX12_judges_256 ?_
                    obtain ⟨s67, e_s67⟩ : ∃ z, z = zU s11 (gP G a 30) 1 v1 := ⟨_, rfl⟩
                    rw [← e_s67]
                    have hS_s67 : zSK G s67 := by rw [e_s67]; exact zSK_A hS_s11 (zr (k := 30) (t2 := 87) hG ha rfl) rfl rfl rfl (by omega)
                    refine j_aload_n hx 0 dX12_judges_257 rfl ?_
                    refine g13_30 hx hG ha kf_RX12_65 dX12_judges_258 ?_
                    refine j_iconst hx dX12_judges_261 ?_
                    refine j_aload_n hx 0 dX12_judges_262 rfl ?_
                    refine g13_45 hx hG ha kf_RX12_99 dX12_judges_263 ?_
                    refine j_iload_n hx 1 dX12_judges_266 rfl ?_
                    have f97 := zaI (j := (v1).toNat) hS0 (zr (k := 45) (t2 := 98) hG ha rfl) rfl (zlen hG (zr (k := 45) (t2 := 98) hG ha rfl) (n := 3) rfl rfl) (show 0 ≤ v1 by omega) (by omega) rfl
                    refine j_iald hx hG (zr (k := 45) (t2 := 98) hG ha rfl) (by decide) rfl (zlen hG (zr (k := 45) (t2 := 98) hG ha rfl) (n := 3) rfl rfl) (by omega) (by omega) (j := (v1).toNat) rfl (v := (s0 (gP G a 45) (v1).toNat)) (by rw [e_s67, zU_at (Or.inl (zne (zr (k := 30) (t2 := 87) hG ha rfl) (zr (k := 45) (t2 := 98) hG ha rfl) (by decide))), e_s11, zU_at (Or.inl (zne (zr (k := 30) (t2 := 87) hG ha rfl) (zr (k := 45) (t2 := 98) hG ha rfl) (by decide))), (zFr_g hF_s7 (zr (k := 45) (t2 := 98) hG ha rfl) (by decide))]) dX12_judges_267 ?_
                    refine j_iast hx hG (zr (k := 30) (t2 := 87) hG ha rfl) (by decide) rfl (zlen hG (zr (k := 30) (t2 := 87) hG ha rfl) (n := 5) rfl rfl) (by omega) (by omega) (j := 2) rfl dX12_judges_268 ?_
                    obtain ⟨s68, e_s68⟩ : ∃ z, z = zU s67 (gP G a 30) 2 ((s0 (gP G a 45) (v1).toNat)) := ⟨_, rfl⟩
                    rw [← e_s68]
                    have hS_s68 : zSK G s68 := by rw [e_s68]; exact zSK_A hS_s67 (zr (k := 30) (t2 := 87) hG ha rfl) rfl rfl rfl (by omega)
                    refine j_iload hx 2 dX12_judges_269 rfl ?_
                    refine j_iconst hx dX12_judges_271 ?_
                    refine j_icmp_ne hx 287 dX12_judges_272 rfl ⟨by decide, by decide⟩ ⟨by decide, by decide⟩ (fun h98 => ?_) (fun h98 => absurd h98 (by omega))
                    refine j_aload_n hx 0 dX12_judges_287 rfl ?_
                    have f99 := zf hS0 ha (k := 44) rfl
                    refine g13_44 hx hG ha kf_RX12_377 (v := (s0 a 44)) (by rw [e_s68, zU_at (Or.inl (zne (zr (k := 30) (t2 := 87) hG ha rfl) ha (by decide))), e_s67, zU_at (Or.inl (zne (zr (k := 30) (t2 := 87) hG ha rfl) ha (by decide))), e_s11, zU_at (Or.inl (zne (zr (k := 30) (t2 := 87) hG ha rfl) ha (by decide))), (zFr_g hF_s7 ha (by decide))]) dX12_judges_288 ?_
                    have g101 : s68 (gP G a 27) 488 = s0 (gP G a 27) 488 := (by rw [e_s68, zU_at (Or.inl (zne (zr (k := 30) (t2 := 87) hG ha rfl) (zr (k := 27) (t2 := 84) hG ha rfl) (by decide))), e_s67, zU_at (Or.inl (zne (zr (k := 30) (t2 := 87) hG ha rfl) (zr (k := 27) (t2 := 84) hG ha rfl) (by decide))), e_s11, zU_at (Or.inl (zne (zr (k := 30) (t2 := 87) hG ha rfl) (zr (k := 27) (t2 := 84) hG ha rfl) (by decide))), (zFr_g hF_s7 (zr (k := 27) (t2 := 84) hG ha rfl) (by decide))])
                    have c312_69 : ∀ (v100 : Int), (0 ≤ v100 ∧ v100 ≤ 1) → (s68 (gP G a 27) 488 = s68 (gP G a 27) 488) → JJ X E 6 G s68 0 0 [(0, .ref a), (1, .int (zI v1)), (4, .int (zI 2))] 312 [.int (zI v100)] := by
                      intro v100 fA70 fA71
                      refine j_istore hx [(5, .int (zI v100)), (0, .ref a), (1, .int (zI v1)), (4, .int (zI 2))] dX12_judges_312 (by decide) rfl ?_
                      refine j_aload_n hx 1 dX12_judges_314 rfl ?_
                      refine j_iload_n hx 2 dX12_judges_315 rfl ?_
                      refine j_aload_n hx 1 dX12_judges_316 rfl ?_
                      refine g13_45 hx hG ha kf_RX12_99 dX12_judges_317 ?_
                      refine j_iload_n hx 2 dX12_judges_320 rfl ?_
                      refine j_iald hx hG (zr (k := 45) (t2 := 98) hG ha rfl) (by decide) rfl (zlen hG (zr (k := 45) (t2 := 98) hG ha rfl) (n := 3) rfl rfl) (by omega) (by omega) (j := (v1).toNat) rfl (v := (s0 (gP G a 45) (v1).toNat)) (by rw [e_s68, zU_at (Or.inl (zne (zr (k := 30) (t2 := 87) hG ha rfl) (zr (k := 45) (t2 := 98) hG ha rfl) (by decide))), e_s67, zU_at (Or.inl (zne (zr (k := 30) (t2 := 87) hG ha rfl) (zr (k := 45) (t2 := 98) hG ha rfl) (by decide))), e_s11, zU_at (Or.inl (zne (zr (k := 30) (t2 := 87) hG ha rfl) (zr (k := 45) (t2 := 98) hG ha rfl) (by decide))), (zFr_g hF_s7 (zr (k := 45) (t2 := 98) hG ha rfl) (by decide))]) dX12_judges_321 ?_
                      have g103 : s68 (gP G a 27) 488 = s0 (gP G a 27) 488 := (by rw [e_s68, zU_at (Or.inl (zne (zr (k := 30) (t2 := 87) hG ha rfl) (zr (k := 27) (t2 := 84) hG ha rfl) (by decide))), e_s67, zU_at (Or.inl (zne (zr (k := 30) (t2 := 87) hG ha rfl) (zr (k := 27) (t2 := 84) hG ha rfl) (by decide))), e_s11, zU_at (Or.inl (zne (zr (k := 30) (t2 := 87) hG ha rfl) (zr (k := 27) (t2 := 84) hG ha rfl) (by decide))), (zFr_g hF_s7 (zr (k := 27) (t2 := 84) hG ha rfl) (by decide))])
                      have c339_72 : ∀ (v102 : Int), (0 ≤ v102 ∧ v102 ≤ 2) → (s68 (gP G a 27) 488 = s68 (gP G a 27) 488) → JJ X E 6 G s68 0 0 [(0, .ref a), (1, .int (zI v1)), (4, .int (zI 2))] 339 [.int (zI v102), .int (zI v1), .ref a] := by
                        intro v102 fA73 fA74
                        have g104 : zc (s68 (gP G a 27)) = zc (s0 (gP G a 27)) := by rw [e_s68, zU_ne (zne (zr (k := 30) (t2 := 87) hG ha rfl) (zr (k := 27) (t2 := 84) hG ha rfl) (by decide)), e_s67, zU_ne (zne (zr (k := 30) (t2 := 87) hG ha rfl) (zr (k := 27) (t2 := 84) hG ha rfl) (by decide)), e_s11, zU_ne (zne (zr (k := 30) (t2 := 87) hG ha rfl) (zr (k := 27) (t2 := 84) hG ha rfl) (by decide)), hF_s7 (gP G a 27) (by rw [(zr (k := 27) (t2 := 84) hG ha rfl)]; decide)]
                        have g105 : s68 (gP G a 27) 488 = s0 (gP G a 27) 488 := (by rw [e_s68, zU_at (Or.inl (zne (zr (k := 30) (t2 := 87) hG ha rfl) (zr (k := 27) (t2 := 84) hG ha rfl) (by decide))), e_s67, zU_at (Or.inl (zne (zr (k := 30) (t2 := 87) hG ha rfl) (zr (k := 27) (t2 := 84) hG ha rfl) (by decide))), e_s11, zU_at (Or.inl (zne (zr (k := 30) (t2 := 87) hG ha rfl) (zr (k := 27) (t2 := 84) hG ha rfl) (by decide))), (zFr_g hF_s7 (zr (k := 27) (t2 := 84) hG ha rfl) (by decide))])
                        refine j_callV hx hG (c_X12_counts hst a v1 v102) lk_RX12_388 ha (by decide) rfl rfl rfl rfl [.int (zI v1), .int (zI v102)] ⟨rfl, hG, hS_s68, ha, (by omega), (by omega)⟩ rfl rfl ⟨by decide, by decide⟩ ⟨by decide, by decide⟩ (k2 := 0) (n2 := 0) rfl rfl (Nat.le_of_ble_eq_true rfl) dX12_judges_339 (kVM (fun s75 hS_s75 hF_s75 q107 => ?_))
                        refine j_aload_n hx 0 dX12_judges_342 rfl ?_
                        refine g13_30 hx hG ha kf_RX12_65 dX12_judges_343 ?_
                        refine j_iconst hx dX12_judges_346 ?_
                        refine j_iload_n hx 1 dX12_judges_347 rfl ?_
                        refine j_iast hx hG (zr (k := 30) (t2 := 87) hG ha rfl) (by decide) rfl (zlen hG (zr (k := 30) (t2 := 87) hG ha rfl) (n := 5) rfl rfl) (by omega) (by omega) (j := 0) rfl dX12_judges_348 ?_
                        obtain ⟨s76, e_s76⟩ : ∃ z, z = zU s75 (gP G a 30) 0 v1 := ⟨_, rfl⟩
                        rw [← e_s76]
                        have hS_s76 : zSK G s76 := by rw [e_s76]; exact zSK_A hS_s75 (zr (k := 30) (t2 := 87) hG ha rfl) rfl rfl rfl (by omega)
                        refine j_aload_n hx 0 dX12_judges_349 rfl ?_
                        refine g13_30 hx hG ha kf_RX12_65 dX12_judges_350 ?_
                        refine j_iconst hx dX12_judges_353 ?_
                        refine j_aload_n hx 0 dX12_judges_354 rfl ?_
                        refine j_iload_n hx 1 dX12_judges_355 rfl ?_
                        refine j_iload hx 2 dX12_judges_356 rfl ?_
                        have g108 : zc (s76 (gP G a 27)) = zc (s75 (gP G a 27)) := by rw [e_s76, zU_ne (zne (zr (k := 30) (t2 := 87) hG ha rfl) (zr (k := 27) (t2 := 84) hG ha rfl) (by decide))]
                        have g109 : s76 (gP G a 27) 488 = s75 (gP G a 27) 488 := (by rw [e_s76, zU_at (Or.inl (zne (zr (k := 30) (t2 := 87) hG ha rfl) (zr (k := 27) (t2 := 84) hG ha rfl) (by decide)))])
                        refine j_callV hx hG (c_X12_wins hst a v1 2) lk_RX12_394 ha (by decide) rfl rfl rfl rfl [.int (zI v1), .int (zI 2)] ⟨rfl, hG, hS_s76, ha, (by omega), (by omega), (by omega), (by omega)⟩ rfl rfl ⟨by decide, by decide⟩ ⟨by decide, by decide⟩ (k2 := 0) (n2 := 0) rfl rfl (Nat.le_of_ble_eq_true rfl) dX12_judges_358 (kIM (fun v110 s77 hS_s77 hF_s77 q111 => ?_))
                        refine j_iast hx hG (zr (k := 30) (t2 := 87) hG ha rfl) (by decide) rfl (zlen hG (zr (k := 30) (t2 := 87) hG ha rfl) (n := 5) rfl rfl) (by omega) (by omega) (j := 4) rfl dX12_judges_361 ?_
                        obtain ⟨s78, e_s78⟩ : ∃ z, z = zU s77 (gP G a 30) 4 v110 := ⟨_, rfl⟩
                        rw [← e_s78]
                        have hS_s78 : zSK G s78 := by rw [e_s78]; exact zSK_A hS_s77 (zr (k := 30) (t2 := 87) hG ha rfl) rfl rfl rfl (by omega)
                        refine j_aload_n hx 0 dX12_judges_362 rfl ?_
                        refine g13_27 hx hG ha kf_RX12_56 dX12_judges_363 ?_
                        refine j_sipush hx dX12_judges_366 rfl ?_
                        refine j_iload_n hx 1 dX12_judges_369 rfl ?_
                        refine j_iadd hx (r := v1 + 512) dX12_judges_370 (by omega) ?_
                        refine j_dup2 hx dX12_judges_371 rfl rfl ?_
                        have f112 := zaQ (j := (v1 + 512).toNat) hS_s77 (zr (k := 27) (t2 := 84) hG ha rfl) (congrArg some (axS_8 (v1 + 512).toNat (by omega))) (zlen hG (zr (k := 27) (t2 := 84) hG ha rfl) (n := 515) rfl rfl) (show 0 ≤ v1 + 512 by omega) (by omega) rfl
                        refine j_iald hx hG (zr (k := 27) (t2 := 84) hG ha rfl) (by decide) rfl (zlen hG (zr (k := 27) (t2 := 84) hG ha rfl) (n := 515) rfl rfl) (by omega) (by omega) (j := (v1 + 512).toNat) rfl (v := (s77 (gP G a 27) (v1 + 512).toNat)) (by rw [e_s78, zU_at (Or.inl (zne (zr (k := 30) (t2 := 87) hG ha rfl) (zr (k := 27) (t2 := 84) hG ha rfl) (by decide)))]) dX12_judges_372 ?_
                        refine j_aload_n hx 0 dX12_judges_373 rfl ?_
                        refine g13_30 hx hG ha kf_RX12_65 dX12_judges_374 ?_
                        refine j_iconst hx dX12_judges_377 ?_
                        refine j_iald hx hG (zr (k := 30) (t2 := 87) hG ha rfl) (by decide) rfl (zlen hG (zr (k := 30) (t2 := 87) hG ha rfl) (n := 5) rfl rfl) (by omega) (by omega) (j := 4) rfl (v := v110) (by rw [e_s78, zU_eq]) dX12_judges_378 ?_
                        refine j_iadd hx (r := (s77 (gP G a 27) (v1 + 512).toNat) + v110) dX12_judges_379 (by omega) ?_
                        refine j_norm (fun v113 f114 f115 f116 => ?_)
                        refine j_iast hx hG (zr (k := 27) (t2 := 84) hG ha rfl) (by decide) rfl (zlen hG (zr (k := 27) (t2 := 84) hG ha rfl) (n := 515) rfl rfl) (by omega) (by omega) (j := (v1 + 512).toNat) rfl dX12_judges_380 ?_
                        obtain ⟨s79, e_s79⟩ : ∃ z, z = zU s78 (gP G a 27) (v1 + 512).toNat v113 := ⟨_, rfl⟩
                        rw [← e_s79]
                        have hS_s79 : zSK G s79 := by rw [e_s79]; exact zSK_a hS_s78 (zr (k := 27) (t2 := 84) hG ha rfl) rfl rfl (congrArg some (axS_8 (v1 + 512).toNat (by omega))) (by omega)
                        have g118 : zc (s78 (gP G a 27)) = zc (s77 (gP G a 27)) := by rw [e_s78, zU_ne (zne (zr (k := 30) (t2 := 87) hG ha rfl) (zr (k := 27) (t2 := 84) hG ha rfl) (by decide))]
                        have z117 : zc (s79 (gP G a 27)) = zc (s78 (gP G a 27)) := by rw [e_s79]; exact zc_o (by omega)
                        have g119 : s79 (gP G a 27) 488 = s77 (gP G a 27) 488 := (by rw [e_s79, zU_at (Or.inr (by omega)), e_s78, zU_at (Or.inl (zne (zr (k := 30) (t2 := 87) hG ha rfl) (zr (k := 27) (t2 := 84) hG ha rfl) (by decide)))])
                        exact j_vret hx hq rfl (by decide) (by decide) dX12_judges_381 ⟨rfl, rfl, hS_s79, (zFr_u (zFr_u (zFr_t (zFr_u (zFr_t (zFr_u (zFr_u (zFr_u (zFr_t zFr_rf hF_s7 (by decide)) e_s11 (zr (k := 30) (t2 := 87) hG ha rfl) (by decide)) e_s67 (zr (k := 30) (t2 := 87) hG ha rfl) (by decide)) e_s68 (zr (k := 30) (t2 := 87) hG ha rfl) (by decide)) hF_s75 (by decide)) e_s76 (zr (k := 30) (t2 := 87) hG ha rfl) (by decide)) hF_s77 (by decide)) e_s78 (zr (k := 30) (t2 := 87) hG ha rfl) (by decide)) e_s79 (zr (k := 27) (t2 := 84) hG ha rfl) (by decide)), ⟨by omega, by omega⟩⟩
                      refine j_if_lt hx 329 dX12_judges_322 rfl (by omega) (fun h120 => ?_) (fun h120 => ?_)
                      · skip
                        refine j_iload hx 0 dX12_judges_329 rfl ?_
                        refine j_if_eq hx 338 dX12_judges_331 rfl (by omega) (fun h121 => ?_) (fun h121 => ?_)
                        · skip
                          refine j_iconst hx dX12_judges_338 ?_
                          exact j_sub [1, 2, 3] [(0, .ref a), (1, .int (zI v1)), (4, .int (zI 2))] rfl (c339_72 1 (by omega) (by omega))
                        · skip
                          refine j_iconst hx dX12_judges_334 ?_
                          refine j_goto hx 339 dX12_judges_335 rfl ?_
                          exact j_sub [1, 2, 3] [(0, .ref a), (1, .int (zI v1)), (4, .int (zI 2))] rfl (c339_72 2 (by omega) (by omega))
                      · skip
                        refine j_iconst hx dX12_judges_325 ?_
                        refine j_goto hx 339 dX12_judges_326 rfl ?_
                        exact j_sub [1, 2, 3] [(0, .ref a), (1, .int (zI v1)), (4, .int (zI 2))] rfl (c339_72 0 (by omega) (by omega))
                    have c311_80 : (s68 (gP G a 27) 488 = s68 (gP G a 27) 488) → JJ X E 6 G s68 0 0 [(0, .ref a), (1, .int (zI v1)), (4, .int (zI 2))] 311 [] := by
                      intro  fA81
                      refine j_iconst hx dX12_judges_311 ?_
                      exact j_sub [0, 1, 2] [(0, .ref a), (1, .int (zI v1)), (4, .int (zI 2))] rfl (c312_69 0 (by omega) (by omega))
                    refine j_if_eq hx 311 dX12_judges_291 rfl (by omega) (fun h122 => ?_) (fun h122 => ?_)
                    · skip
                      exact j_sub [0, 1, 2] [(0, .ref a), (1, .int (zI v1)), (4, .int (zI 2))] rfl (c311_80  (by omega))
                    · skip
                      refine j_aload_n hx 0 dX12_judges_294 rfl ?_
                      refine g13_17 hx hG ha kf_RX12_44 dX12_judges_295 ?_
                      refine j_iconst hx dX12_judges_298 ?_
                      refine j_iload_n hx 1 dX12_judges_299 rfl ?_
                      refine j_imul hx (r := 4 * v1) dX12_judges_300 rfl ?_
                      refine j_iconst hx dX12_judges_301 ?_
                      refine j_iadd hx (r := 4 * v1 + 1) dX12_judges_302 (by omega) ?_
                      have f123 := zaI (j := (4 * v1 + 1).toNat) hS0 (zr (k := 17) (t2 := 80) hG ha rfl) rfl (zlen hG (zr (k := 17) (t2 := 80) hG ha rfl) (n := 12) rfl rfl) (show 0 ≤ 4 * v1 + 1 by omega) (by omega) rfl
                      refine j_iald hx hG (zr (k := 17) (t2 := 80) hG ha rfl) (by decide) rfl (zlen hG (zr (k := 17) (t2 := 80) hG ha rfl) (n := 12) rfl rfl) (by omega) (by omega) (j := (4 * v1 + 1).toNat) rfl (v := (s0 (gP G a 17) (4 * v1 + 1).toNat)) (by rw [e_s68, zU_at (Or.inl (zne (zr (k := 30) (t2 := 87) hG ha rfl) (zr (k := 17) (t2 := 80) hG ha rfl) (by decide))), e_s67, zU_at (Or.inl (zne (zr (k := 30) (t2 := 87) hG ha rfl) (zr (k := 17) (t2 := 80) hG ha rfl) (by decide))), e_s11, zU_at (Or.inl (zne (zr (k := 30) (t2 := 87) hG ha rfl) (zr (k := 17) (t2 := 80) hG ha rfl) (by decide))), (zFr_g hF_s7 (zr (k := 17) (t2 := 80) hG ha rfl) (by decide))]) dX12_judges_303 ?_
                      refine j_if_le hx 311 dX12_judges_304 rfl (by omega) (fun h124 => ?_) (fun h124 => ?_)
                      · skip
                        exact j_sub [0, 1, 2] [(0, .ref a), (1, .int (zI v1)), (4, .int (zI 2))] rfl (c311_80  (by omega))
                      · skip
                        refine j_iconst hx dX12_judges_307 ?_
                        refine j_goto hx 312 dX12_judges_308 rfl ?_
                        exact j_sub [0, 1, 2] [(0, .ref a), (1, .int (zI v1)), (4, .int (zI 2))] rfl (c312_69 1 (by omega) (by omega))
                  refine j_icmp_le hx 250 dX12_judges_146 rfl (by omega) ⟨by decide, by decide⟩ (fun h125 => ?_) (fun h125 => ?_)
                  · skip
                    exact j_sub [1, 2, 0] [(0, .ref a), (1, .int (zI v1)), (4, .int (zI 2))] rfl (c250_65  (by omega))
                  · skip
                    refine j_aload_n hx 1 dX12_judges_149 rfl ?_
                    refine g13_27 hx hG ha kf_RX12_56 dX12_judges_150 ?_
                    refine j_sipush hx dX12_judges_153 rfl ?_
                    have f126 := zaQ (j := 492) hS0 (zr (k := 27) (t2 := 84) hG ha rfl) (congrArg some (axS_7 492 (by omega))) (zlen hG (zr (k := 27) (t2 := 84) hG ha rfl) (n := 515) rfl rfl) (show 0 ≤ 492 by omega) (by omega) rfl
                    refine j_iald hx hG (zr (k := 27) (t2 := 84) hG ha rfl) (by decide) rfl (zlen hG (zr (k := 27) (t2 := 84) hG ha rfl) (n := 515) rfl rfl) (by omega) (by omega) (j := 492) rfl (v := (s0 (gP G a 27) 492)) (by rw [e_s11, zU_at (Or.inl (zne (zr (k := 30) (t2 := 87) hG ha rfl) (zr (k := 27) (t2 := 84) hG ha rfl) (by decide))), (zFr_g hF_s7 (zr (k := 27) (t2 := 84) hG ha rfl) (by decide))]) dX12_judges_156 ?_
                    refine j_if_le hx 250 dX12_judges_157 rfl (by omega) (fun h127 => ?_) (fun h127 => ?_)
                    · skip
                      exact j_sub [1, 2, 0] [(0, .ref a), (1, .int (zI v1)), (4, .int (zI 2))] rfl (c250_65  (by omega))
                    · skip
                      refine j_iconst hx dX12_judges_160 ?_
                      refine j_istore hx [(5, .int (zI 0)), (4, .int (zI 2)), (0, .ref a), (1, .int (zI v1)), (2, .int (zI v2)), (3, .int (zI v3))] dX12_judges_161 (by decide) rfl ?_
                      have g129 : zc (s11 (gP G a 27)) = zc (s0 (gP G a 27)) := by rw [e_s11, zU_ne (zne (zr (k := 30) (t2 := 87) hG ha rfl) (zr (k := 27) (t2 := 84) hG ha rfl) (by decide)), hF_s7 (gP G a 27) (by rw [(zr (k := 27) (t2 := 84) hG ha rfl)]; decide)]
                      have c163_82 : ∀ (m_c163_82 : Nat) (v128 : Int) (s83 : zS), 2147483648 - v128 < m_c163_82 → (0 ≤ v128 ∧ v128 ≤ 3) → (zSK G s83) → (zFr [84] G s11 s83) → (zc (s83 (gP G a 27)) = zc (s11 (gP G a 27))) → (s83 (gP G a 27) 488 = s11 (gP G a 27) 488) → JJ X E 6 G s83 0 0 [(0, .ref a), (1, .int (zI v1)), (4, .int (zI 2)), (5, .int (zI v128))] 163 [] := by
                        intro m_c163_82
                        induction m_c163_82 with
                        | zero => intro v128 s83 hm_c163_82 fA84 hS_s83 hF_s83 fA87 fA88; exfalso; omega
                        | succ m_c163_82 ih_c163_82 => 
                          intro v128 s83 hm_c163_82 fA84 hS_s83 hF_s83 fA87 fA88
                          refine j_iload hx 3 dX12_judges_163 rfl ?_
                          refine j_aload_n hx 0 dX12_judges_165 rfl ?_
                          refine g13_24 hx hG ha kf_RX12_189 (v := (s0 a 24)) (by rw [(zFr_g hF_s83 ha (by decide)), e_s11, zU_at (Or.inl (zne (zr (k := 30) (t2 := 87) hG ha rfl) ha (by decide))), (zFr_g hF_s7 ha (by decide))]) dX12_judges_166 ?_
                          refine j_icmp_ge hx 201 dX12_judges_169 rfl (by omega) (by omega) (fun h130 => ?_) (fun h130 => ?_)
                          · skip
                            refine j_aload_n hx 0 dX12_judges_201 rfl ?_
                            refine g13_27 hx hG ha kf_RX12_56 dX12_judges_202 ?_
                            refine j_sipush hx dX12_judges_205 rfl ?_
                            have f131 := zaQ (j := 492) hS_s83 (zr (k := 27) (t2 := 84) hG ha rfl) (congrArg some (axS_7 492 (by omega))) (zlen hG (zr (k := 27) (t2 := 84) hG ha rfl) (n := 515) rfl rfl) (show 0 ≤ 492 by omega) (by omega) rfl
                            refine j_iald hx hG (zr (k := 27) (t2 := 84) hG ha rfl) (by decide) rfl (zlen hG (zr (k := 27) (t2 := 84) hG ha rfl) (n := 515) rfl rfl) (by omega) (by omega) (j := 492) rfl rfl dX12_judges_208 ?_
                            refine j_iconst hx dX12_judges_209 ?_
                            refine j_icmp_ne hx 249 dX12_judges_210 rfl (by omega) ⟨by decide, by decide⟩ (fun h132 => ?_) (fun h132 => ?_)
                            · skip
                              exact j_vret hx hq rfl (by decide) (by decide) dX12_judges_249 ⟨rfl, rfl, hS_s83, (zFr_t (zFr_u (zFr_t zFr_rf hF_s7 (by decide)) e_s11 (zr (k := 30) (t2 := 87) hG ha rfl) (by decide)) hF_s83 (by decide)), ⟨by omega, by omega⟩⟩
                            · skip
                              refine j_iload hx 2 dX12_judges_213 rfl ?_
                              refine j_iconst hx dX12_judges_215 ?_
                              refine j_icmp_eq hx 249 dX12_judges_216 rfl ⟨by decide, by decide⟩ ⟨by decide, by decide⟩ (fun h133 => absurd h133 (by omega)) (fun h133 => ?_)
                              refine j_aload_n hx 0 dX12_judges_219 rfl ?_
                              refine j_iload hx 2 dX12_judges_220 rfl ?_
                              refine j_bipush hx dX12_judges_222 rfl ?_
                              refine j_idiv hx dX12_judges_224 ⟨by decide, by decide⟩ ⟨by decide, by decide⟩ (by decide) (fun v134 f135 f136 f137 => ?_)
                              obtain rfl : v134 = 0 := by omega
                              refine j_sipush hx dX12_judges_225 rfl ?_
                              refine j_sipush hx dX12_judges_228 rfl ?_
                              have g140 : s83 (gP G a 27) (Int.toNat 486) = s83 (gP G a 27) 486 := rfl
                              refine j_callV hx hG (c_X12_comes hst a 0 360 486) lk_RX12_365 ha (by decide) rfl rfl rfl rfl [.int (zI 0), .int (zI 360), .int (zI 486)] ⟨rfl, hG, hS_s83, ha, (by omega), (by omega), (by omega), (by omega), (by omega)⟩ rfl rfl ⟨by decide, by decide⟩ ⟨by decide, by decide⟩ (k2 := 0) (n2 := 0) rfl rfl (Nat.le_of_ble_eq_true rfl) dX12_judges_231 (kVM (fun s89 hS_s89 hF_s89 q142 => ?_))
                              refine j_aload_n hx 0 dX12_judges_234 rfl ?_
                              refine j_iload hx 2 dX12_judges_235 rfl ?_
                              refine j_bipush hx dX12_judges_237 rfl ?_
                              refine j_irem hx dX12_judges_239 ⟨by decide, by decide⟩ ⟨by decide, by decide⟩ (by decide) (fun v143 f144 f145 f146 f147 => ?_)
                              obtain rfl : v143 = 2 := by omega
                              refine j_sipush hx dX12_judges_240 rfl ?_
                              refine j_sipush hx dX12_judges_243 rfl ?_
                              have g149 : s89 (gP G a 27) (Int.toNat 486) = s89 (gP G a 27) 486 := rfl
                              refine j_callV hx hG (c_X12_comes hst a 2 360 486) lk_RX12_365 ha (by decide) rfl rfl rfl rfl [.int (zI 2), .int (zI 360), .int (zI 486)] ⟨rfl, hG, hS_s89, ha, (by omega), (by omega), (by omega), (by omega), (by omega)⟩ rfl rfl ⟨by decide, by decide⟩ ⟨by decide, by decide⟩ (k2 := 0) (n2 := 0) rfl rfl (Nat.le_of_ble_eq_true rfl) dX12_judges_246 (kVM (fun s90 hS_s90 hF_s90 q151 => ?_))
                              exact j_vret hx hq rfl (by decide) (by decide) dX12_judges_249 ⟨rfl, rfl, hS_s90, (zFr_t (zFr_t (zFr_t (zFr_u (zFr_t zFr_rf hF_s7 (by decide)) e_s11 (zr (k := 30) (t2 := 87) hG ha rfl) (by decide)) hF_s83 (by decide)) hF_s89 (by decide)) hF_s90 (by decide)), ⟨by omega, by omega⟩⟩
                          · skip
                            refine j_aload_n hx 0 dX12_judges_172 rfl ?_
                            refine g13_45 hx hG ha kf_RX12_99 dX12_judges_173 ?_
                            refine j_iload hx 3 dX12_judges_176 rfl ?_
                            have f152 := zaI (j := (v128).toNat) hS0 (zr (k := 45) (t2 := 98) hG ha rfl) rfl (zlen hG (zr (k := 45) (t2 := 98) hG ha rfl) (n := 3) rfl rfl) (show 0 ≤ v128 by omega) (by omega) rfl
                            refine j_iald hx hG (zr (k := 45) (t2 := 98) hG ha rfl) (by decide) rfl (zlen hG (zr (k := 45) (t2 := 98) hG ha rfl) (n := 3) rfl rfl) (by omega) (by omega) (j := (v128).toNat) rfl (v := (s0 (gP G a 45) (v128).toNat)) (by rw [(zFr_g hF_s83 (zr (k := 45) (t2 := 98) hG ha rfl) (by decide)), e_s11, zU_at (Or.inl (zne (zr (k := 30) (t2 := 87) hG ha rfl) (zr (k := 45) (t2 := 98) hG ha rfl) (by decide))), (zFr_g hF_s7 (zr (k := 45) (t2 := 98) hG ha rfl) (by decide))]) dX12_judges_178 ?_
                            refine j_aload_n hx 0 dX12_judges_179 rfl ?_
                            refine g13_45 hx hG ha kf_RX12_99 dX12_judges_180 ?_
                            refine j_iload_n hx 1 dX12_judges_183 rfl ?_
                            have f153 := zaI (j := (v1).toNat) hS0 (zr (k := 45) (t2 := 98) hG ha rfl) rfl (zlen hG (zr (k := 45) (t2 := 98) hG ha rfl) (n := 3) rfl rfl) (show 0 ≤ v1 by omega) (by omega) rfl
                            refine j_iald hx hG (zr (k := 45) (t2 := 98) hG ha rfl) (by decide) rfl (zlen hG (zr (k := 45) (t2 := 98) hG ha rfl) (n := 3) rfl rfl) (by omega) (by omega) (j := (v1).toNat) rfl (v := (s0 (gP G a 45) (v1).toNat)) (by rw [(zFr_g hF_s83 (zr (k := 45) (t2 := 98) hG ha rfl) (by decide)), e_s11, zU_at (Or.inl (zne (zr (k := 30) (t2 := 87) hG ha rfl) (zr (k := 45) (t2 := 98) hG ha rfl) (by decide))), (zFr_g hF_s7 (zr (k := 45) (t2 := 98) hG ha rfl) (by decide))]) dX12_judges_184 ?_
                            have c195_91 : ∀ (s92 : zS), (zSK G s92) → (zFr [84] G s83 s92) → (zc (s92 (gP G a 27)) = zc (s83 (gP G a 27))) → (s92 (gP G a 27) 488 = s83 (gP G a 27) 488) → JJ X E 6 G s92 0 0 [(0, .ref a), (1, .int (zI v1)), (4, .int (zI 2)), (5, .int (zI v128))] 195 [] := by
                              intro s92 hS_s92 hF_s92 fA95 fA96
                              refine j_iinc hx 3 [(5, .int (zI (v128 + 1))), (0, .ref a), (1, .int (zI v1)), (4, .int (zI 2))] dX12_judges_195 rfl (by omega) (by decide) rfl ?_
                              refine j_goto hx 163 dX12_judges_198 rfl ?_
                              exact j_sub [1, 2, 3, 0] [(0, .ref a), (1, .int (zI v1)), (4, .int (zI 2)), (5, .int (zI (v128 + 1)))] rfl (ih_c163_82 (v128 + 1) s92 (by omega) (by omega) hS_s92 (zFr_t (zFr_t zFr_rf hF_s83 (by decide)) hF_s92 (by decide)) (by omega) (by omega))
                            refine j_icmp_ne hx 195 dX12_judges_185 rfl (by omega) (by omega) (fun h154 => ?_) (fun h154 => ?_)
                            · skip
                              exact j_sub [0, 1, 2, 3] [(0, .ref a), (1, .int (zI v1)), (4, .int (zI 2)), (5, .int (zI v128))] rfl (c195_91 s83 hS_s83 zFr_rf (by omega) (by omega))
                            · skip
                              refine j_aload_n hx 0 dX12_judges_188 rfl ?_
                              refine j_iload hx 3 dX12_judges_189 rfl ?_
                              refine j_iconst hx dX12_judges_191 ?_
                              refine j_callV hx hG (c_X12_counts hst a v128 4) lk_RX12_388 ha (by decide) rfl rfl rfl rfl [.int (zI v128), .int (zI 4)] ⟨rfl, hG, hS_s83, ha, (by omega), (by omega)⟩ rfl rfl ⟨by decide, by decide⟩ ⟨by decide, by decide⟩ (k2 := 0) (n2 := 0) rfl rfl (Nat.le_of_ble_eq_true rfl) dX12_judges_192 (kVM (fun s97 hS_s97 hF_s97 q156 => ?_))
                              exact j_sub [0, 1, 2, 3] [(0, .ref a), (1, .int (zI v1)), (4, .int (zI 2)), (5, .int (zI v128))] rfl (c195_91 s97 hS_s97 (zFr_t zFr_rf hF_s97 (by decide)) (by omega) (by omega))
                      exact j_sub [2, 3, 1, 0] [(0, .ref a), (1, .int (zI v1)), (4, .int (zI 2)), (5, .int (zI 0))] rfl (c163_82 (2147483648 * 4) 0 s11 (by omega) (by omega) hS_s11 zFr_rf (by omega) (by omega))
                · skip
                  refine j_iload_n hx 4 dX12_judges_144 rfl ?_
                  refine j_iconst hx dX12_judges_145 ?_
                  have g157 : s11 (gP G a 27) 488 = s0 (gP G a 27) 488 := (by rw [e_s11, zU_at (Or.inl (zne (zr (k := 30) (t2 := 87) hG ha rfl) (zr (k := 27) (t2 := 84) hG ha rfl) (by decide))), (zFr_g hF_s7 (zr (k := 27) (t2 := 84) hG ha rfl) (by decide))])
                  have c250_98 : (s11 (gP G a 27) 488 = s11 (gP G a 27) 488) → JJ X E 6 G s11 0 0 [(0, .ref a), (1, .int (zI v1)), (4, .int (zI 12))] 250 [] := by
                    intro  fA99
                    refine j_aload_n hx 0 dX12_judges_250 rfl ?_
                    refine g13_30 hx hG ha kf_RX12_65 dX12_judges_251 ?_
                    refine j_iconst hx dX12_judges_254 ?_
                    refine j_iload_n hx 1 dX12_judges_255 rfl ?_
                    refine j_iast hx hG (zr (k := 30) (t2 := 87) hG ha rfl) (by decide) rfl (zlen hG (zr (k := 30) (t2 := 87) hG ha rfl) (n := 5) rfl rfl) (by omega) (by omega) (j := 1) rfl dX12_judges_256 ?_
                    obtain ⟨s100, e_s100⟩ : ∃ z, z = zU s11 (gP G a 30) 1 v1 := ⟨_, rfl⟩
                    rw [← e_s100]
                    have hS_s100 : zSK G s100 := by rw [e_s100]; exact zSK_A hS_s11 (zr (k := 30) (t2 := 87) hG ha rfl) rfl rfl rfl (by omega)
                    refine j_aload_n hx 0 dX12_judges_257 rfl ?_
                    refine g13_30 hx hG ha kf_RX12_65 dX12_judges_258 ?_
                    refine j_iconst hx dX12_judges_261 ?_
                    refine j_aload_n hx 0 dX12_judges_262 rfl ?_
                    refine g13_45 hx hG ha kf_RX12_99 dX12_judges_263 ?_
                    refine j_iload_n hx 1 dX12_judges_266 rfl ?_
                    have f158 := zaI (j := (v1).toNat) hS0 (zr (k := 45) (t2 := 98) hG ha rfl) rfl (zlen hG (zr (k := 45) (t2 := 98) hG ha rfl) (n := 3) rfl rfl) (show 0 ≤ v1 by omega) (by omega) rfl
                    refine j_iald hx hG (zr (k := 45) (t2 := 98) hG ha rfl) (by decide) rfl (zlen hG (zr (k := 45) (t2 := 98) hG ha rfl) (n := 3) rfl rfl) (by omega) (by omega) (j := (v1).toNat) rfl (v := (s0 (gP G a 45) (v1).toNat)) (by rw [e_s100, zU_at (Or.inl (zne (zr (k := 30) (t2 := 87) hG ha rfl) (zr (k := 45) (t2 := 98) hG ha rfl) (by decide))), e_s11, zU_at (Or.inl (zne (zr (k := 30) (t2 := 87) hG ha rfl) (zr (k := 45) (t2 := 98) hG ha rfl) (by decide))), (zFr_g hF_s7 (zr (k := 45) (t2 := 98) hG ha rfl) (by decide))]) dX12_judges_267 ?_
                    refine j_iast hx hG (zr (k := 30) (t2 := 87) hG ha rfl) (by decide) rfl (zlen hG (zr (k := 30) (t2 := 87) hG ha rfl) (n := 5) rfl rfl) (by omega) (by omega) (j := 2) rfl dX12_judges_268 ?_
                    obtain ⟨s101, e_s101⟩ : ∃ z, z = zU s100 (gP G a 30) 2 ((s0 (gP G a 45) (v1).toNat)) := ⟨_, rfl⟩
                    rw [← e_s101]
                    have hS_s101 : zSK G s101 := by rw [e_s101]; exact zSK_A hS_s100 (zr (k := 30) (t2 := 87) hG ha rfl) rfl rfl rfl (by omega)
                    refine j_iload hx 2 dX12_judges_269 rfl ?_
                    refine j_iconst hx dX12_judges_271 ?_
                    refine j_icmp_ne hx 287 dX12_judges_272 rfl ⟨by decide, by decide⟩ ⟨by decide, by decide⟩ (fun h159 => ?_) (fun h159 => absurd h159 (by omega))
                    refine j_aload_n hx 0 dX12_judges_287 rfl ?_
                    have f160 := zf hS0 ha (k := 44) rfl
                    refine g13_44 hx hG ha kf_RX12_377 (v := (s0 a 44)) (by rw [e_s101, zU_at (Or.inl (zne (zr (k := 30) (t2 := 87) hG ha rfl) ha (by decide))), e_s100, zU_at (Or.inl (zne (zr (k := 30) (t2 := 87) hG ha rfl) ha (by decide))), e_s11, zU_at (Or.inl (zne (zr (k := 30) (t2 := 87) hG ha rfl) ha (by decide))), (zFr_g hF_s7 ha (by decide))]) dX12_judges_288 ?_
                    have g162 : s101 (gP G a 27) 488 = s0 (gP G a 27) 488 := (by rw [e_s101, zU_at (Or.inl (zne (zr (k := 30) (t2 := 87) hG ha rfl) (zr (k := 27) (t2 := 84) hG ha rfl) (by decide))), e_s100, zU_at (Or.inl (zne (zr (k := 30) (t2 := 87) hG ha rfl) (zr (k := 27) (t2 := 84) hG ha rfl) (by decide))), e_s11, zU_at (Or.inl (zne (zr (k := 30) (t2 := 87) hG ha rfl) (zr (k := 27) (t2 := 84) hG ha rfl) (by decide))), (zFr_g hF_s7 (zr (k := 27) (t2 := 84) hG ha rfl) (by decide))])
                    have c312_102 : ∀ (v161 : Int), (0 ≤ v161 ∧ v161 ≤ 1) → (s101 (gP G a 27) 488 = s101 (gP G a 27) 488) → JJ X E 6 G s101 0 0 [(0, .ref a), (1, .int (zI v1)), (4, .int (zI 12))] 312 [.int (zI v161)] := by
                      intro v161 fA103 fA104
                      refine j_istore hx [(5, .int (zI v161)), (0, .ref a), (1, .int (zI v1)), (4, .int (zI 12))] dX12_judges_312 (by decide) rfl ?_
                      refine j_aload_n hx 1 dX12_judges_314 rfl ?_
                      refine j_iload_n hx 2 dX12_judges_315 rfl ?_
                      refine j_aload_n hx 1 dX12_judges_316 rfl ?_
                      refine g13_45 hx hG ha kf_RX12_99 dX12_judges_317 ?_
                      refine j_iload_n hx 2 dX12_judges_320 rfl ?_
                      refine j_iald hx hG (zr (k := 45) (t2 := 98) hG ha rfl) (by decide) rfl (zlen hG (zr (k := 45) (t2 := 98) hG ha rfl) (n := 3) rfl rfl) (by omega) (by omega) (j := (v1).toNat) rfl (v := (s0 (gP G a 45) (v1).toNat)) (by rw [e_s101, zU_at (Or.inl (zne (zr (k := 30) (t2 := 87) hG ha rfl) (zr (k := 45) (t2 := 98) hG ha rfl) (by decide))), e_s100, zU_at (Or.inl (zne (zr (k := 30) (t2 := 87) hG ha rfl) (zr (k := 45) (t2 := 98) hG ha rfl) (by decide))), e_s11, zU_at (Or.inl (zne (zr (k := 30) (t2 := 87) hG ha rfl) (zr (k := 45) (t2 := 98) hG ha rfl) (by decide))), (zFr_g hF_s7 (zr (k := 45) (t2 := 98) hG ha rfl) (by decide))]) dX12_judges_321 ?_
                      have g164 : s101 (gP G a 27) 488 = s0 (gP G a 27) 488 := (by rw [e_s101, zU_at (Or.inl (zne (zr (k := 30) (t2 := 87) hG ha rfl) (zr (k := 27) (t2 := 84) hG ha rfl) (by decide))), e_s100, zU_at (Or.inl (zne (zr (k := 30) (t2 := 87) hG ha rfl) (zr (k := 27) (t2 := 84) hG ha rfl) (by decide))), e_s11, zU_at (Or.inl (zne (zr (k := 30) (t2 := 87) hG ha rfl) (zr (k := 27) (t2 := 84) hG ha rfl) (by decide))), (zFr_g hF_s7 (zr (k := 27) (t2 := 84) hG ha rfl) (by decide))])
                      have c339_105 : ∀ (v163 : Int), (0 ≤ v163 ∧ v163 ≤ 2) → (s101 (gP G a 27) 488 = s101 (gP G a 27) 488) → JJ X E 6 G s101 0 0 [(0, .ref a), (1, .int (zI v1)), (4, .int (zI 12))] 339 [.int (zI v163), .int (zI v1), .ref a] := by
                        intro v163 fA106 fA107
                        have g165 : zc (s101 (gP G a 27)) = zc (s0 (gP G a 27)) := by rw [e_s101, zU_ne (zne (zr (k := 30) (t2 := 87) hG ha rfl) (zr (k := 27) (t2 := 84) hG ha rfl) (by decide)), e_s100, zU_ne (zne (zr (k := 30) (t2 := 87) hG ha rfl) (zr (k := 27) (t2 := 84) hG ha rfl) (by decide)), e_s11, zU_ne (zne (zr (k := 30) (t2 := 87) hG ha rfl) (zr (k := 27) (t2 := 84) hG ha rfl) (by decide)), hF_s7 (gP G a 27) (by rw [(zr (k := 27) (t2 := 84) hG ha rfl)]; decide)]
                        have g166 : s101 (gP G a 27) 488 = s0 (gP G a 27) 488 := (by rw [e_s101, zU_at (Or.inl (zne (zr (k := 30) (t2 := 87) hG ha rfl) (zr (k := 27) (t2 := 84) hG ha rfl) (by decide))), e_s100, zU_at (Or.inl (zne (zr (k := 30) (t2 := 87) hG ha rfl) (zr (k := 27) (t2 := 84) hG ha rfl) (by decide))), e_s11, zU_at (Or.inl (zne (zr (k := 30) (t2 := 87) hG ha rfl) (zr (k := 27) (t2 := 84) hG ha rfl) (by decide))), (zFr_g hF_s7 (zr (k := 27) (t2 := 84) hG ha rfl) (by decide))])
                        refine j_callV hx hG (c_X12_counts hst a v1 v163) lk_RX12_388 ha (by decide) rfl rfl rfl rfl [.int (zI v1), .int (zI v163)] ⟨rfl, hG, hS_s101, ha, (by omega), (by omega)⟩ rfl rfl ⟨by decide, by decide⟩ ⟨by decide, by decide⟩ (k2 := 0) (n2 := 0) rfl rfl (Nat.le_of_ble_eq_true rfl) dX12_judges_339 (kVM (fun s108 hS_s108 hF_s108 q168 => ?_))
                        refine j_aload_n hx 0 dX12_judges_342 rfl ?_
                        refine g13_30 hx hG ha kf_RX12_65 dX12_judges_343 ?_
                        refine j_iconst hx dX12_judges_346 ?_
                        refine j_iload_n hx 1 dX12_judges_347 rfl ?_
                        refine j_iast hx hG (zr (k := 30) (t2 := 87) hG ha rfl) (by decide) rfl (zlen hG (zr (k := 30) (t2 := 87) hG ha rfl) (n := 5) rfl rfl) (by omega) (by omega) (j := 0) rfl dX12_judges_348 ?_
                        obtain ⟨s109, e_s109⟩ : ∃ z, z = zU s108 (gP G a 30) 0 v1 := ⟨_, rfl⟩
                        rw [← e_s109]
                        have hS_s109 : zSK G s109 := by rw [e_s109]; exact zSK_A hS_s108 (zr (k := 30) (t2 := 87) hG ha rfl) rfl rfl rfl (by omega)
                        refine j_aload_n hx 0 dX12_judges_349 rfl ?_
                        refine g13_30 hx hG ha kf_RX12_65 dX12_judges_350 ?_
                        refine j_iconst hx dX12_judges_353 ?_
                        refine j_aload_n hx 0 dX12_judges_354 rfl ?_
                        refine j_iload_n hx 1 dX12_judges_355 rfl ?_
                        refine j_iload hx 2 dX12_judges_356 rfl ?_
                        have g169 : zc (s109 (gP G a 27)) = zc (s108 (gP G a 27)) := by rw [e_s109, zU_ne (zne (zr (k := 30) (t2 := 87) hG ha rfl) (zr (k := 27) (t2 := 84) hG ha rfl) (by decide))]
                        have g170 : s109 (gP G a 27) 488 = s108 (gP G a 27) 488 := (by rw [e_s109, zU_at (Or.inl (zne (zr (k := 30) (t2 := 87) hG ha rfl) (zr (k := 27) (t2 := 84) hG ha rfl) (by decide)))])
                        refine j_callV hx hG (c_X12_wins hst a v1 12) lk_RX12_394 ha (by decide) rfl rfl rfl rfl [.int (zI v1), .int (zI 12)] ⟨rfl, hG, hS_s109, ha, (by omega), (by omega), (by omega), (by omega)⟩ rfl rfl ⟨by decide, by decide⟩ ⟨by decide, by decide⟩ (k2 := 0) (n2 := 0) rfl rfl (Nat.le_of_ble_eq_true rfl) dX12_judges_358 (kIM (fun v171 s110 hS_s110 hF_s110 q172 => ?_))
                        refine j_iast hx hG (zr (k := 30) (t2 := 87) hG ha rfl) (by decide) rfl (zlen hG (zr (k := 30) (t2 := 87) hG ha rfl) (n := 5) rfl rfl) (by omega) (by omega) (j := 4) rfl dX12_judges_361 ?_
                        obtain ⟨s111, e_s111⟩ : ∃ z, z = zU s110 (gP G a 30) 4 v171 := ⟨_, rfl⟩
                        rw [← e_s111]
                        have hS_s111 : zSK G s111 := by rw [e_s111]; exact zSK_A hS_s110 (zr (k := 30) (t2 := 87) hG ha rfl) rfl rfl rfl (by omega)
                        refine j_aload_n hx 0 dX12_judges_362 rfl ?_
                        refine g13_27 hx hG ha kf_RX12_56 dX12_judges_363 ?_
                        refine j_sipush hx dX12_judges_366 rfl ?_
                        refine j_iload_n hx 1 dX12_judges_369 rfl ?_
                        refine j_iadd hx (r := v1 + 512) dX12_judges_370 (by omega) ?_
                        refine j_dup2 hx dX12_judges_371 rfl rfl ?_
                        have f173 := zaQ (j := (v1 + 512).toNat) hS_s110 (zr (k := 27) (t2 := 84) hG ha rfl) (congrArg some (axS_8 (v1 + 512).toNat (by omega))) (zlen hG (zr (k := 27) (t2 := 84) hG ha rfl) (n := 515) rfl rfl) (show 0 ≤ v1 + 512 by omega) (by omega) rfl
                        refine j_iald hx hG (zr (k := 27) (t2 := 84) hG ha rfl) (by decide) rfl (zlen hG (zr (k := 27) (t2 := 84) hG ha rfl) (n := 515) rfl rfl) (by omega) (by omega) (j := (v1 + 512).toNat) rfl (v := (s110 (gP G a 27) (v1 + 512).toNat)) (by rw [e_s111, zU_at (Or.inl (zne (zr (k := 30) (t2 := 87) hG ha rfl) (zr (k := 27) (t2 := 84) hG ha rfl) (by decide)))]) dX12_judges_372 ?_
                        refine j_aload_n hx 0 dX12_judges_373 rfl ?_
                        refine g13_30 hx hG ha kf_RX12_65 dX12_judges_374 ?_
                        refine j_iconst hx dX12_judges_377 ?_
                        refine j_iald hx hG (zr (k := 30) (t2 := 87) hG ha rfl) (by decide) rfl (zlen hG (zr (k := 30) (t2 := 87) hG ha rfl) (n := 5) rfl rfl) (by omega) (by omega) (j := 4) rfl (v := v171) (by rw [e_s111, zU_eq]) dX12_judges_378 ?_
                        refine j_iadd hx (r := (s110 (gP G a 27) (v1 + 512).toNat) + v171) dX12_judges_379 (by omega) ?_
                        refine j_norm (fun v174 f175 f176 f177 => ?_)
                        refine j_iast hx hG (zr (k := 27) (t2 := 84) hG ha rfl) (by decide) rfl (zlen hG (zr (k := 27) (t2 := 84) hG ha rfl) (n := 515) rfl rfl) (by omega) (by omega) (j := (v1 + 512).toNat) rfl dX12_judges_380 ?_
                        obtain ⟨s112, e_s112⟩ : ∃ z, z = zU s111 (gP G a 27) (v1 + 512).toNat v174 := ⟨_, rfl⟩
                        rw [← e_s112]
                        have hS_s112 : zSK G s112 := by rw [e_s112]; exact zSK_a hS_s111 (zr (k := 27) (t2 := 84) hG ha rfl) rfl rfl (congrArg some (axS_8 (v1 + 512).toNat (by omega))) (by omega)
                        have g179 : zc (s111 (gP G a 27)) = zc (s110 (gP G a 27)) := by rw [e_s111, zU_ne (zne (zr (k := 30) (t2 := 87) hG ha rfl) (zr (k := 27) (t2 := 84) hG ha rfl) (by decide))]
                        have z178 : zc (s112 (gP G a 27)) = zc (s111 (gP G a 27)) := by rw [e_s112]; exact zc_o (by omega)
                        have g180 : s112 (gP G a 27) 488 = s110 (gP G a 27) 488 := (by rw [e_s112, zU_at (Or.inr (by omega)), e_s111, zU_at (Or.inl (zne (zr (k := 30) (t2 := 87) hG ha rfl) (zr (k := 27) (t2 := 84) hG ha rfl) (by decide)))])
                        exact j_vret hx hq rfl (by decide) (by decide) dX12_judges_381 ⟨rfl, rfl, hS_s112, (zFr_u (zFr_u (zFr_t (zFr_u (zFr_t (zFr_u (zFr_u (zFr_u (zFr_t zFr_rf hF_s7 (by decide)) e_s11 (zr (k := 30) (t2 := 87) hG ha rfl) (by decide)) e_s100 (zr (k := 30) (t2 := 87) hG ha rfl) (by decide)) e_s101 (zr (k := 30) (t2 := 87) hG ha rfl) (by decide)) hF_s108 (by decide)) e_s109 (zr (k := 30) (t2 := 87) hG ha rfl) (by decide)) hF_s110 (by decide)) e_s111 (zr (k := 30) (t2 := 87) hG ha rfl) (by decide)) e_s112 (zr (k := 27) (t2 := 84) hG ha rfl) (by decide)), ⟨by omega, by omega⟩⟩
                      refine j_if_lt hx 329 dX12_judges_322 rfl (by omega) (fun h181 => ?_) (fun h181 => ?_)
                      · skip
                        refine j_iload hx 0 dX12_judges_329 rfl ?_
                        refine j_if_eq hx 338 dX12_judges_331 rfl (by omega) (fun h182 => ?_) (fun h182 => ?_)
                        · skip
                          refine j_iconst hx dX12_judges_338 ?_
                          exact j_sub [1, 2, 3] [(0, .ref a), (1, .int (zI v1)), (4, .int (zI 12))] rfl (c339_105 1 (by omega) (by omega))
                        · skip
                          refine j_iconst hx dX12_judges_334 ?_
                          refine j_goto hx 339 dX12_judges_335 rfl ?_
                          exact j_sub [1, 2, 3] [(0, .ref a), (1, .int (zI v1)), (4, .int (zI 12))] rfl (c339_105 2 (by omega) (by omega))
                      · skip
                        refine j_iconst hx dX12_judges_325 ?_
                        refine j_goto hx 339 dX12_judges_326 rfl ?_
                        exact j_sub [1, 2, 3] [(0, .ref a), (1, .int (zI v1)), (4, .int (zI 12))] rfl (c339_105 0 (by omega) (by omega))
                    have c311_113 : (s101 (gP G a 27) 488 = s101 (gP G a 27) 488) → JJ X E 6 G s101 0 0 [(0, .ref a), (1, .int (zI v1)), (4, .int (zI 12))] 311 [] := by
                      intro  fA114
                      refine j_iconst hx dX12_judges_311 ?_
                      exact j_sub [0, 1, 2] [(0, .ref a), (1, .int (zI v1)), (4, .int (zI 12))] rfl (c312_102 0 (by omega) (by omega))
                    refine j_if_eq hx 311 dX12_judges_291 rfl (by omega) (fun h183 => ?_) (fun h183 => ?_)
                    · skip
                      exact j_sub [0, 1, 2] [(0, .ref a), (1, .int (zI v1)), (4, .int (zI 12))] rfl (c311_113  (by omega))
                    · skip
                      refine j_aload_n hx 0 dX12_judges_294 rfl ?_
                      refine g13_17 hx hG ha kf_RX12_44 dX12_judges_295 ?_
                      refine j_iconst hx dX12_judges_298 ?_
                      refine j_iload_n hx 1 dX12_judges_299 rfl ?_
                      refine j_imul hx (r := 4 * v1) dX12_judges_300 rfl ?_
                      refine j_iconst hx dX12_judges_301 ?_
                      refine j_iadd hx (r := 4 * v1 + 1) dX12_judges_302 (by omega) ?_
                      have f184 := zaI (j := (4 * v1 + 1).toNat) hS0 (zr (k := 17) (t2 := 80) hG ha rfl) rfl (zlen hG (zr (k := 17) (t2 := 80) hG ha rfl) (n := 12) rfl rfl) (show 0 ≤ 4 * v1 + 1 by omega) (by omega) rfl
                      refine j_iald hx hG (zr (k := 17) (t2 := 80) hG ha rfl) (by decide) rfl (zlen hG (zr (k := 17) (t2 := 80) hG ha rfl) (n := 12) rfl rfl) (by omega) (by omega) (j := (4 * v1 + 1).toNat) rfl (v := (s0 (gP G a 17) (4 * v1 + 1).toNat)) (by rw [e_s101, zU_at (Or.inl (zne (zr (k := 30) (t2 := 87) hG ha rfl) (zr (k := 17) (t2 := 80) hG ha rfl) (by decide))), e_s100, zU_at (Or.inl (zne (zr (k := 30) (t2 := 87) hG ha rfl) (zr (k := 17) (t2 := 80) hG ha rfl) (by decide))), e_s11, zU_at (Or.inl (zne (zr (k := 30) (t2 := 87) hG ha rfl) (zr (k := 17) (t2 := 80) hG ha rfl) (by decide))), (zFr_g hF_s7 (zr (k := 17) (t2 := 80) hG ha rfl) (by decide))]) dX12_judges_303 ?_
                      refine j_if_le hx 311 dX12_judges_304 rfl (by omega) (fun h185 => ?_) (fun h185 => ?_)
                      · skip
                        exact j_sub [0, 1, 2] [(0, .ref a), (1, .int (zI v1)), (4, .int (zI 12))] rfl (c311_113  (by omega))
                      · skip
                        refine j_iconst hx dX12_judges_307 ?_
                        refine j_goto hx 312 dX12_judges_308 rfl ?_
                        exact j_sub [0, 1, 2] [(0, .ref a), (1, .int (zI v1)), (4, .int (zI 12))] rfl (c312_102 1 (by omega) (by omega))
                  refine j_icmp_le hx 250 dX12_judges_146 rfl (by omega) ⟨by decide, by decide⟩ (fun h186 => ?_) (fun h186 => ?_)
                  · skip
                    exact j_sub [1, 2, 0] [(0, .ref a), (1, .int (zI v1)), (4, .int (zI 12))] rfl (c250_98  (by omega))
                  · skip
                    refine j_aload_n hx 1 dX12_judges_149 rfl ?_
                    refine g13_27 hx hG ha kf_RX12_56 dX12_judges_150 ?_
                    refine j_sipush hx dX12_judges_153 rfl ?_
                    have f187 := zaQ (j := 492) hS0 (zr (k := 27) (t2 := 84) hG ha rfl) (congrArg some (axS_7 492 (by omega))) (zlen hG (zr (k := 27) (t2 := 84) hG ha rfl) (n := 515) rfl rfl) (show 0 ≤ 492 by omega) (by omega) rfl
                    refine j_iald hx hG (zr (k := 27) (t2 := 84) hG ha rfl) (by decide) rfl (zlen hG (zr (k := 27) (t2 := 84) hG ha rfl) (n := 515) rfl rfl) (by omega) (by omega) (j := 492) rfl (v := (s0 (gP G a 27) 492)) (by rw [e_s11, zU_at (Or.inl (zne (zr (k := 30) (t2 := 87) hG ha rfl) (zr (k := 27) (t2 := 84) hG ha rfl) (by decide))), (zFr_g hF_s7 (zr (k := 27) (t2 := 84) hG ha rfl) (by decide))]) dX12_judges_156 ?_
                    refine j_if_le hx 250 dX12_judges_157 rfl (by omega) (fun h188 => ?_) (fun h188 => ?_)
                    · skip
                      exact j_sub [1, 2, 0] [(0, .ref a), (1, .int (zI v1)), (4, .int (zI 12))] rfl (c250_98  (by omega))
                    · skip
                      refine j_iconst hx dX12_judges_160 ?_
                      refine j_istore hx [(5, .int (zI 0)), (4, .int (zI 12)), (0, .ref a), (1, .int (zI v1)), (2, .int (zI v2)), (3, .int (zI v3))] dX12_judges_161 (by decide) rfl ?_
                      have g190 : zc (s11 (gP G a 27)) = zc (s0 (gP G a 27)) := by rw [e_s11, zU_ne (zne (zr (k := 30) (t2 := 87) hG ha rfl) (zr (k := 27) (t2 := 84) hG ha rfl) (by decide)), hF_s7 (gP G a 27) (by rw [(zr (k := 27) (t2 := 84) hG ha rfl)]; decide)]
                      have c163_115 : ∀ (m_c163_115 : Nat) (v189 : Int) (s116 : zS), 2147483648 - v189 < m_c163_115 → (0 ≤ v189 ∧ v189 ≤ 3) → (zSK G s116) → (zFr [84] G s11 s116) → (zc (s116 (gP G a 27)) = zc (s11 (gP G a 27))) → (s116 (gP G a 27) 488 = s11 (gP G a 27) 488) → JJ X E 6 G s116 0 0 [(0, .ref a), (1, .int (zI v1)), (4, .int (zI 12)), (5, .int (zI v189))] 163 [] := by
                        intro m_c163_115
                        induction m_c163_115 with
                        | zero => intro v189 s116 hm_c163_115 fA117 hS_s116 hF_s116 fA120 fA121; exfalso; omega
                        | succ m_c163_115 ih_c163_115 => 
                          intro v189 s116 hm_c163_115 fA117 hS_s116 hF_s116 fA120 fA121
                          refine j_iload hx 3 dX12_judges_163 rfl ?_
                          refine j_aload_n hx 0 dX12_judges_165 rfl ?_
                          refine g13_24 hx hG ha kf_RX12_189 (v := (s0 a 24)) (by rw [(zFr_g hF_s116 ha (by decide)), e_s11, zU_at (Or.inl (zne (zr (k := 30) (t2 := 87) hG ha rfl) ha (by decide))), (zFr_g hF_s7 ha (by decide))]) dX12_judges_166 ?_
                          refine j_icmp_ge hx 201 dX12_judges_169 rfl (by omega) (by omega) (fun h191 => ?_) (fun h191 => ?_)
                          · skip
                            refine j_aload_n hx 0 dX12_judges_201 rfl ?_
                            refine g13_27 hx hG ha kf_RX12_56 dX12_judges_202 ?_
                            refine j_sipush hx dX12_judges_205 rfl ?_
                            have f192 := zaQ (j := 492) hS_s116 (zr (k := 27) (t2 := 84) hG ha rfl) (congrArg some (axS_7 492 (by omega))) (zlen hG (zr (k := 27) (t2 := 84) hG ha rfl) (n := 515) rfl rfl) (show 0 ≤ 492 by omega) (by omega) rfl
                            refine j_iald hx hG (zr (k := 27) (t2 := 84) hG ha rfl) (by decide) rfl (zlen hG (zr (k := 27) (t2 := 84) hG ha rfl) (n := 515) rfl rfl) (by omega) (by omega) (j := 492) rfl rfl dX12_judges_208 ?_
                            refine j_iconst hx dX12_judges_209 ?_
                            refine j_icmp_ne hx 249 dX12_judges_210 rfl (by omega) ⟨by decide, by decide⟩ (fun h193 => ?_) (fun h193 => ?_)
                            · skip
                              exact j_vret hx hq rfl (by decide) (by decide) dX12_judges_249 ⟨rfl, rfl, hS_s116, (zFr_t (zFr_u (zFr_t zFr_rf hF_s7 (by decide)) e_s11 (zr (k := 30) (t2 := 87) hG ha rfl) (by decide)) hF_s116 (by decide)), ⟨by omega, by omega⟩⟩
                            · skip
                              refine j_iload hx 2 dX12_judges_213 rfl ?_
                              refine j_iconst hx dX12_judges_215 ?_
                              refine j_icmp_eq hx 249 dX12_judges_216 rfl ⟨by decide, by decide⟩ ⟨by decide, by decide⟩ (fun h194 => absurd h194 (by omega)) (fun h194 => ?_)
                              refine j_aload_n hx 0 dX12_judges_219 rfl ?_
                              refine j_iload hx 2 dX12_judges_220 rfl ?_
                              refine j_bipush hx dX12_judges_222 rfl ?_
                              refine j_idiv hx dX12_judges_224 ⟨by decide, by decide⟩ ⟨by decide, by decide⟩ (by decide) (fun v195 f196 f197 f198 => ?_)
                              obtain rfl : v195 = 1 := by omega
                              refine j_sipush hx dX12_judges_225 rfl ?_
                              refine j_sipush hx dX12_judges_228 rfl ?_
                              have g201 : s116 (gP G a 27) (Int.toNat 486) = s116 (gP G a 27) 486 := rfl
                              refine j_callV hx hG (c_X12_comes hst a 1 360 486) lk_RX12_365 ha (by decide) rfl rfl rfl rfl [.int (zI 1), .int (zI 360), .int (zI 486)] ⟨rfl, hG, hS_s116, ha, (by omega), (by omega), (by omega), (by omega), (by omega)⟩ rfl rfl ⟨by decide, by decide⟩ ⟨by decide, by decide⟩ (k2 := 0) (n2 := 0) rfl rfl (Nat.le_of_ble_eq_true rfl) dX12_judges_231 (kVM (fun s122 hS_s122 hF_s122 q203 => ?_))
                              refine j_aload_n hx 0 dX12_judges_234 rfl ?_
                              refine j_iload hx 2 dX12_judges_235 rfl ?_
                              refine j_bipush hx dX12_judges_237 rfl ?_
                              refine j_irem hx dX12_judges_239 ⟨by decide, by decide⟩ ⟨by decide, by decide⟩ (by decide) (fun v204 f205 f206 f207 f208 => ?_)
                              obtain rfl : v204 = 2 := by omega
                              refine j_sipush hx dX12_judges_240 rfl ?_
                              refine j_sipush hx dX12_judges_243 rfl ?_
                              have g210 : s122 (gP G a 27) (Int.toNat 486) = s122 (gP G a 27) 486 := rfl
                              refine j_callV hx hG (c_X12_comes hst a 2 360 486) lk_RX12_365 ha (by decide) rfl rfl rfl rfl [.int (zI 2), .int (zI 360), .int (zI 486)] ⟨rfl, hG, hS_s122, ha, (by omega), (by omega), (by omega), (by omega), (by omega)⟩ rfl rfl ⟨by decide, by decide⟩ ⟨by decide, by decide⟩ (k2 := 0) (n2 := 0) rfl rfl (Nat.le_of_ble_eq_true rfl) dX12_judges_246 (kVM (fun s123 hS_s123 hF_s123 q212 => ?_))
                              exact j_vret hx hq rfl (by decide) (by decide) dX12_judges_249 ⟨rfl, rfl, hS_s123, (zFr_t (zFr_t (zFr_t (zFr_u (zFr_t zFr_rf hF_s7 (by decide)) e_s11 (zr (k := 30) (t2 := 87) hG ha rfl) (by decide)) hF_s116 (by decide)) hF_s122 (by decide)) hF_s123 (by decide)), ⟨by omega, by omega⟩⟩
                          · skip
                            refine j_aload_n hx 0 dX12_judges_172 rfl ?_
                            refine g13_45 hx hG ha kf_RX12_99 dX12_judges_173 ?_
                            refine j_iload hx 3 dX12_judges_176 rfl ?_
                            have f213 := zaI (j := (v189).toNat) hS0 (zr (k := 45) (t2 := 98) hG ha rfl) rfl (zlen hG (zr (k := 45) (t2 := 98) hG ha rfl) (n := 3) rfl rfl) (show 0 ≤ v189 by omega) (by omega) rfl
                            refine j_iald hx hG (zr (k := 45) (t2 := 98) hG ha rfl) (by decide) rfl (zlen hG (zr (k := 45) (t2 := 98) hG ha rfl) (n := 3) rfl rfl) (by omega) (by omega) (j := (v189).toNat) rfl (v := (s0 (gP G a 45) (v189).toNat)) (by rw [(zFr_g hF_s116 (zr (k := 45) (t2 := 98) hG ha rfl) (by decide)), e_s11, zU_at (Or.inl (zne (zr (k := 30) (t2 := 87) hG ha rfl) (zr (k := 45) (t2 := 98) hG ha rfl) (by decide))), (zFr_g hF_s7 (zr (k := 45) (t2 := 98) hG ha rfl) (by decide))]) dX12_judges_178 ?_
                            refine j_aload_n hx 0 dX12_judges_179 rfl ?_
                            refine g13_45 hx hG ha kf_RX12_99 dX12_judges_180 ?_
                            refine j_iload_n hx 1 dX12_judges_183 rfl ?_
                            have f214 := zaI (j := (v1).toNat) hS0 (zr (k := 45) (t2 := 98) hG ha rfl) rfl (zlen hG (zr (k := 45) (t2 := 98) hG ha rfl) (n := 3) rfl rfl) (show 0 ≤ v1 by omega) (by omega) rfl
                            refine j_iald hx hG (zr (k := 45) (t2 := 98) hG ha rfl) (by decide) rfl (zlen hG (zr (k := 45) (t2 := 98) hG ha rfl) (n := 3) rfl rfl) (by omega) (by omega) (j := (v1).toNat) rfl (v := (s0 (gP G a 45) (v1).toNat)) (by rw [(zFr_g hF_s116 (zr (k := 45) (t2 := 98) hG ha rfl) (by decide)), e_s11, zU_at (Or.inl (zne (zr (k := 30) (t2 := 87) hG ha rfl) (zr (k := 45) (t2 := 98) hG ha rfl) (by decide))), (zFr_g hF_s7 (zr (k := 45) (t2 := 98) hG ha rfl) (by decide))]) dX12_judges_184 ?_
                            have c195_124 : ∀ (s125 : zS), (zSK G s125) → (zFr [84] G s116 s125) → (zc (s125 (gP G a 27)) = zc (s116 (gP G a 27))) → (s125 (gP G a 27) 488 = s116 (gP G a 27) 488) → JJ X E 6 G s125 0 0 [(0, .ref a), (1, .int (zI v1)), (4, .int (zI 12)), (5, .int (zI v189))] 195 [] := by
                              intro s125 hS_s125 hF_s125 fA128 fA129
                              refine j_iinc hx 3 [(5, .int (zI (v189 + 1))), (0, .ref a), (1, .int (zI v1)), (4, .int (zI 12))] dX12_judges_195 rfl (by omega) (by decide) rfl ?_
                              refine j_goto hx 163 dX12_judges_198 rfl ?_
                              exact j_sub [1, 2, 3, 0] [(0, .ref a), (1, .int (zI v1)), (4, .int (zI 12)), (5, .int (zI (v189 + 1)))] rfl (ih_c163_115 (v189 + 1) s125 (by omega) (by omega) hS_s125 (zFr_t (zFr_t zFr_rf hF_s116 (by decide)) hF_s125 (by decide)) (by omega) (by omega))
                            refine j_icmp_ne hx 195 dX12_judges_185 rfl (by omega) (by omega) (fun h215 => ?_) (fun h215 => ?_)
                            · skip
                              exact j_sub [0, 1, 2, 3] [(0, .ref a), (1, .int (zI v1)), (4, .int (zI 12)), (5, .int (zI v189))] rfl (c195_124 s116 hS_s116 zFr_rf (by omega) (by omega))
                            · skip
                              refine j_aload_n hx 0 dX12_judges_188 rfl ?_
                              refine j_iload hx 3 dX12_judges_189 rfl ?_
                              refine j_iconst hx dX12_judges_191 ?_
                              refine j_callV hx hG (c_X12_counts hst a v189 4) lk_RX12_388 ha (by decide) rfl rfl rfl rfl [.int (zI v189), .int (zI 4)] ⟨rfl, hG, hS_s116, ha, (by omega), (by omega)⟩ rfl rfl ⟨by decide, by decide⟩ ⟨by decide, by decide⟩ (k2 := 0) (n2 := 0) rfl rfl (Nat.le_of_ble_eq_true rfl) dX12_judges_192 (kVM (fun s130 hS_s130 hF_s130 q217 => ?_))
                              exact j_sub [0, 1, 2, 3] [(0, .ref a), (1, .int (zI v1)), (4, .int (zI 12)), (5, .int (zI v189))] rfl (c195_124 s130 hS_s130 (zFr_t zFr_rf hF_s130 (by decide)) (by omega) (by omega))
                      exact j_sub [2, 3, 1, 0] [(0, .ref a), (1, .int (zI v1)), (4, .int (zI 12)), (5, .int (zI 0))] rfl (c163_115 (2147483648 * 4) 0 s11 (by omega) (by omega) hS_s11 zFr_rf (by omega) (by omega))
              · skip
                have g218 : zc (s11 (gP G a 27)) = zc (s0 (gP G a 27)) := by rw [e_s11, zU_ne (zne (zr (k := 30) (t2 := 87) hG ha rfl) (zr (k := 27) (t2 := 84) hG ha rfl) (by decide)), hF_s7 (gP G a 27) (by rw [(zr (k := 27) (t2 := 84) hG ha rfl)]; decide)]
                have g219 : s11 (gP G a 27) 488 = s0 (gP G a 27) 488 := (by rw [e_s11, zU_at (Or.inl (zne (zr (k := 30) (t2 := 87) hG ha rfl) (zr (k := 27) (t2 := 84) hG ha rfl) (by decide))), (zFr_g hF_s7 (zr (k := 27) (t2 := 84) hG ha rfl) (by decide))])
                exact j_vret hx hq rfl (by decide) (by decide) dX12_judges_137 ⟨rfl, rfl, hS_s11, (zFr_u (zFr_t zFr_rf hF_s7 (by decide)) e_s11 (zr (k := 30) (t2 := 87) hG ha rfl) (by decide)), ⟨by omega, by omega⟩⟩
            · skip
              refine j_aload_n hx 0 dX12_judges_101 rfl ?_
              refine g13_30 hx hG ha kf_RX12_65 dX12_judges_102 ?_
              refine j_iload hx 4 dX12_judges_105 rfl ?_
              refine j_iload hx 4 dX12_judges_107 rfl ?_
              refine j_iconst hx dX12_judges_109 ?_
              have c118_131 : ∀ (v220 : Int), ((-1) ≤ v220 ∧ v220 ≤ 0) → JJ X E 6 G s7 0 0 [(0, .ref a), (1, .int (zI v1)), (2, .int (zI v2)), (3, .int (zI v3)), (4, .int (zI v7))] 118 [.int (zI v220), .int (zI v7), .ref (gP G a 30)] := by
                intro v220 fA132
                refine j_iast hx hG (zr (k := 30) (t2 := 87) hG ha rfl) (by decide) rfl (zlen hG (zr (k := 30) (t2 := 87) hG ha rfl) (n := 5) rfl rfl) (by omega) (by omega) (j := (v7).toNat) rfl dX12_judges_118 ?_
                obtain ⟨s133, e_s133⟩ : ∃ z, z = zU s7 (gP G a 30) (v7).toNat v220 := ⟨_, rfl⟩
                rw [← e_s133]
                have hS_s133 : zSK G s133 := by rw [e_s133]; exact zSK_A hS_s7 (zr (k := 30) (t2 := 87) hG ha rfl) rfl rfl rfl (by omega)
                refine j_iinc hx 4 [(4, .int (zI (v7 + 1))), (0, .ref a), (1, .int (zI v1)), (2, .int (zI v2)), (3, .int (zI v3))] dX12_judges_119 rfl (by omega) (by decide) rfl ?_
                refine j_goto hx 95 dX12_judges_122 rfl ?_
                exact j_sub [1, 2, 3, 4, 0] [(0, .ref a), (1, .int (zI v1)), (2, .int (zI v2)), (3, .int (zI v3)), (4, .int (zI (v7 + 1)))] rfl (ih_c95_6 (v7 + 1) s133 (by omega) (by omega) hS_s133 (zFr_u (zFr_t zFr_rf hF_s7 (by decide)) e_s133 (zr (k := 30) (t2 := 87) hG ha rfl) (by decide)))
              refine j_icmp_ge hx 117 dX12_judges_110 rfl (by omega) ⟨by decide, by decide⟩ (fun h221 => ?_) (fun h221 => ?_)
              · skip
                refine j_iconst hx dX12_judges_117 ?_
                exact j_sub [0, 1, 2, 3, 4] [(0, .ref a), (1, .int (zI v1)), (2, .int (zI v2)), (3, .int (zI v3)), (4, .int (zI v7))] rfl (c118_131 0 (by omega))
              · skip
                refine j_iconst hx dX12_judges_113 ?_
                refine j_goto hx 118 dX12_judges_114 rfl ?_
                exact j_sub [0, 1, 2, 3, 4] [(0, .ref a), (1, .int (zI v1)), (2, .int (zI v2)), (3, .int (zI v3)), (4, .int (zI v7))] rfl (c118_131 (-1) (by omega))
        exact j_sub [1, 2, 3, 4, 0] [(0, .ref a), (1, .int (zI v1)), (2, .int (zI v2)), (3, .int (zI v3)), (4, .int (zI 0))] rfl (c95_6 (2147483648 * 4) 0 s0 (by omega) (by omega) hS0 zFr_rf)
      · skip
        refine j_aload_n hx 0 dX12_judges_18 rfl ?_
        refine g13_45 hx hG ha kf_RX12_99 dX12_judges_19 ?_
        refine j_iload hx 4 dX12_judges_22 rfl ?_
        have f222 := zaI (j := (v4).toNat) hS0 (zr (k := 45) (t2 := 98) hG ha rfl) rfl (zlen hG (zr (k := 45) (t2 := 98) hG ha rfl) (n := 3) rfl rfl) (show 0 ≤ v4 by omega) (by omega) rfl
        refine j_iald hx hG (zr (k := 45) (t2 := 98) hG ha rfl) (by decide) rfl (zlen hG (zr (k := 45) (t2 := 98) hG ha rfl) (n := 3) rfl rfl) (by omega) (by omega) (j := (v4).toNat) rfl rfl dX12_judges_24 ?_
        refine j_bipush hx dX12_judges_25 rfl ?_
        have c86_134 : ∀ (v223 : Int) (v224 : Int) (v225 : Int), ((-1) ≤ v223 ∧ v223 ≤ 2) → ((-2147483648) ≤ v224 ∧ v224 ≤ 2147483647) → ((-2147483648) ≤ v225 ∧ v225 ≤ 2147483647) → JJ X E 6 G s0 0 0 [(0, .ref a), (1, .int (zI v223)), (2, .int (zI v224)), (3, .int (zI v225)), (4, .int (zI v4))] 86 [] := by
          intro v223 v224 v225 fA135 fA136 fA137
          refine j_iinc hx 4 [(4, .int (zI (v4 + 1))), (0, .ref a), (1, .int (zI v223)), (2, .int (zI v224)), (3, .int (zI v225))] dX12_judges_86 rfl (by omega) (by decide) rfl ?_
          refine j_goto hx 9 dX12_judges_89 rfl ?_
          exact j_sub [1, 2, 3, 4, 0] [(0, .ref a), (1, .int (zI v223)), (2, .int (zI v224)), (3, .int (zI v225)), (4, .int (zI (v4 + 1)))] rfl (ih_c9_1 v223 v224 v225 (v4 + 1) (by omega) (by omega) (by omega) (by omega) (by omega))
        refine j_icmp_ne hx 33 dX12_judges_27 rfl (by omega) ⟨by decide, by decide⟩ (fun h226 => ?_) (fun h226 => ?_)
        · skip
          refine j_iincN hx 2 (fun v227 => [(2, .int (zI v227)), (0, .ref a), (1, .int (zI v1)), (3, .int (zI v3)), (4, .int (zI v4))]) dX12_judges_33 rfl (by decide) (fun _ => rfl) (fun v227 f228 f229 f230 => ?_)
          refine j_iload_n hx 2 dX12_judges_36 rfl ?_
          refine j_iconst hx dX12_judges_37 ?_
          have c62_138 : ∀ (v231 : Int) (v232 : Int), (0 ≤ v231 ∧ v231 ≤ 2) → ((-2147483648) ≤ v232 ∧ v232 ≤ 2147483647) → JJ X E 6 G s0 0 0 [(0, .ref a), (1, .int (zI v231)), (2, .int (zI v227)), (3, .int (zI v232)), (4, .int (zI v4))] 62 [] := by
            intro v231 v232 fA139 fA140
            refine j_iload_n hx 3 dX12_judges_62 rfl ?_
            refine j_aload_n hx 0 dX12_judges_63 rfl ?_
            refine g13_45 hx hG ha kf_RX12_99 dX12_judges_64 ?_
            refine j_iload hx 4 dX12_judges_67 rfl ?_
            refine j_iald hx hG (zr (k := 45) (t2 := 98) hG ha rfl) (by decide) rfl (zlen hG (zr (k := 45) (t2 := 98) hG ha rfl) (n := 3) rfl rfl) (by omega) (by omega) (j := (v4).toNat) rfl rfl dX12_judges_69 ?_
            refine j_aload_n hx 0 dX12_judges_70 rfl ?_
            refine g13_45 hx hG ha kf_RX12_99 dX12_judges_71 ?_
            refine j_iload_n hx 1 dX12_judges_74 rfl ?_
            have f233 := zaI (j := (v231).toNat) hS0 (zr (k := 45) (t2 := 98) hG ha rfl) rfl (zlen hG (zr (k := 45) (t2 := 98) hG ha rfl) (n := 3) rfl rfl) (show 0 ≤ v231 by omega) (by omega) rfl
            refine j_iald hx hG (zr (k := 45) (t2 := 98) hG ha rfl) (by decide) rfl (zlen hG (zr (k := 45) (t2 := 98) hG ha rfl) (n := 3) rfl rfl) (by omega) (by omega) (j := (v231).toNat) rfl rfl dX12_judges_75 ?_
            have c84_141 : ∀ (v234 : Int), (0 ≤ v234 ∧ v234 ≤ 1) → JJ X E 6 G s0 0 0 [(0, .ref a), (1, .int (zI v231)), (2, .int (zI v227)), (4, .int (zI v4))] 84 [.int (zI v234), .int (zI v232)] := by
              intro v234 fA142
              refine j_iadd hx (r := v232 + v234) dX12_judges_84 rfl ?_
              refine j_norm (fun v235 f236 f237 f238 => ?_)
              refine j_istore_n hx [(3, .int (zI v235)), (0, .ref a), (1, .int (zI v231)), (2, .int (zI v227)), (4, .int (zI v4))] dX12_judges_85 (by decide) rfl ?_
              exact j_sub [1, 2, 3, 0, 4] [(0, .ref a), (1, .int (zI v231)), (2, .int (zI v227)), (3, .int (zI v235)), (4, .int (zI v4))] rfl (c86_134 v231 v227 v235 (by omega) (by omega) (by omega))
            refine j_icmp_ne hx 83 dX12_judges_76 rfl (by omega) (by omega) (fun h239 => ?_) (fun h239 => ?_)
            · skip
              refine j_iconst hx dX12_judges_83 ?_
              exact j_sub [0, 1, 2, 4] [(0, .ref a), (1, .int (zI v231)), (2, .int (zI v227)), (4, .int (zI v4))] rfl (c84_141 0 (by omega))
            · skip
              refine j_iconst hx dX12_judges_79 ?_
              refine j_goto hx 84 dX12_judges_80 rfl ?_
              exact j_sub [0, 1, 2, 4] [(0, .ref a), (1, .int (zI v231)), (2, .int (zI v227)), (4, .int (zI v4))] rfl (c84_141 1 (by omega))
          have c57_143 : JJ X E 6 G s0 0 0 [(0, .ref a), (2, .int (zI v227)), (4, .int (zI v4))] 57 [] := by
            refine j_iload hx 2 dX12_judges_57 rfl ?_
            refine j_istore_n hx [(1, .int (zI v4)), (0, .ref a), (2, .int (zI v227)), (4, .int (zI v4))] dX12_judges_59 (by decide) rfl ?_
            refine j_iconst hx dX12_judges_60 ?_
            refine j_istore_n hx [(3, .int (zI 0)), (1, .int (zI v4)), (0, .ref a), (2, .int (zI v227)), (4, .int (zI v4))] dX12_judges_61 (by decide) rfl ?_
            exact j_sub [2, 1, 3, 0, 4] [(0, .ref a), (1, .int (zI v4)), (2, .int (zI v227)), (3, .int (zI 0)), (4, .int (zI v4))] rfl (c62_138 v4 0 (by omega) (by omega))
          refine j_icmp_eq hx 57 dX12_judges_38 rfl (by omega) ⟨by decide, by decide⟩ (fun h240 => ?_) (fun h240 => ?_)
          · skip
            exact j_sub [1, 0, 4] [(0, .ref a), (2, .int (zI v227)), (4, .int (zI v4))] rfl (c57_143  )
          · skip
            refine j_aload_n hx 1 dX12_judges_41 rfl ?_
            refine g13_45 hx hG ha kf_RX12_99 dX12_judges_42 ?_
            refine j_iload hx 4 dX12_judges_45 rfl ?_
            refine j_iald hx hG (zr (k := 45) (t2 := 98) hG ha rfl) (by decide) rfl (zlen hG (zr (k := 45) (t2 := 98) hG ha rfl) (n := 3) rfl rfl) (by omega) (by omega) (j := (v4).toNat) rfl rfl dX12_judges_47 ?_
            refine j_aload_n hx 1 dX12_judges_48 rfl ?_
            refine g13_45 hx hG ha kf_RX12_99 dX12_judges_49 ?_
            refine j_iload_n hx 2 dX12_judges_52 rfl ?_
            have f241 := zaI (j := (v1).toNat) hS0 (zr (k := 45) (t2 := 98) hG ha rfl) rfl (zlen hG (zr (k := 45) (t2 := 98) hG ha rfl) (n := 3) rfl rfl) (show 0 ≤ v1 by omega) (by omega) rfl
            refine j_iald hx hG (zr (k := 45) (t2 := 98) hG ha rfl) (by decide) rfl (zlen hG (zr (k := 45) (t2 := 98) hG ha rfl) (n := 3) rfl rfl) (by omega) (by omega) (j := (v1).toNat) rfl rfl dX12_judges_53 ?_
            refine j_icmp_ge hx 62 dX12_judges_54 rfl (by omega) (by omega) (fun h242 => ?_) (fun h242 => ?_)
            · skip
              exact j_sub [1, 2, 0, 3, 4] [(0, .ref a), (1, .int (zI v1)), (2, .int (zI v227)), (3, .int (zI v3)), (4, .int (zI v4))] rfl (c62_138 v1 v3 (by omega) (by omega))
            · skip
              exact j_sub [1, 0, 4] [(0, .ref a), (2, .int (zI v227)), (4, .int (zI v4))] rfl (c57_143  )
        · skip
          refine j_goto hx 86 dX12_judges_30 rfl ?_
          exact j_sub [0, 1, 2, 3, 4] [(0, .ref a), (1, .int (zI v1)), (2, .int (zI v2)), (3, .int (zI v3)), (4, .int (zI v4))] rfl (c86_134 v1 v2 v3 (by omega) (by omega) (by omega))
  exact j_sub [4, 3, 2, 1, 0] [(0, .ref a), (1, .int (zI (-1))), (2, .int (zI 0)), (3, .int (zI 0)), (4, .int (zI 0))] rfl (c9_1 (2147483648 * 4) (-1) 0 0 0 (by omega) (by omega) (by omega) (by omega) (by omega))
