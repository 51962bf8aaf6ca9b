set_option maxHeartbeats 4000000 in
set_option maxRecDepth 20000 in
theorem c_X12_wins {E : zE} {l : Launch} (hst : l.stackTraces = false) (a : Nat) (x1 : Int) (x2 : Int) : Con E l yX12_wins cX12_wins 6 (some .int) { frames := 3, cells := 0, slots := 0, locals := 70 } (fun G s vs => vs = [.ref a, .int (zI x1), .int (zI x2)] ∧ zGK G ∧ zSK G s ∧ (gT G a = 13) ∧ (0 ≤ x1 ∧ x1 ≤ 2) ∧ (1 ≤ x2 ∧ x2 ≤ 12) ∧ ((x2 = 1 ∨ x2 = 2 ∨ x2 = 12)) ∧ (zc (s (gP G a 27)) ≤ 60)) (fun G s _ => pI (fun r G2 s2 => G2 = G ∧ zSK G s2 ∧ zFr [84] G s s2 ∧ (0 ≤ r ∧ r ≤ 180) ∧ zc (s2 (gP G a 27)) = zc (s (gP G a 27)) ∧ s2 (gP G a 27) 488 = s (gP G a 27) 488)) := by
  refine Con.mk hst (by decide) (fun G s vs h => by rw [h.1]; exact Nat.le_of_ble_eq_true rfl) ?_
  rintro X G s0 vs ⟨rfl, hG, hS0, ha, hx1, hx2, e0, e1⟩ rfl hx hq
  show JJ X E 6 G s0 0 0 [(0, .ref a), (1, .int (zI x1)), (2, .int (zI x2))] 0 []
  rcases (show x2 = 1 ∨ x2 = 2 ∨ x2 = 12 by omega) with rfl | rfl | rfl
  · skip
    refine j_aload_n hx 0 dX12_wins_0 rfl ?_
    refine j_iload_n hx 2 dX12_wins_1 rfl ?_
    refine j_bipush hx dX12_wins_2 rfl ?_
    refine j_idiv hx dX12_wins_4 ⟨by decide, by decide⟩ ⟨by decide, by decide⟩ (by decide) (fun v1 f2 f3 f4 => ?_)
    refine j_callV hx hG (c_X12_top hst a v1) lk_RX12_334 ha (by decide) rfl rfl rfl rfl [.int (zI v1)] ⟨rfl, hG, hS0, ha, (by omega)⟩ rfl rfl ⟨by decide, by decide⟩ ⟨by decide, by decide⟩ (k2 := 0) (n2 := 0) rfl rfl (Nat.le_of_ble_eq_true rfl) dX12_wins_5 (kIP (fun v7 q8 => ?_))
    refine j_istore_n hx [(3, .int (zI v7)), (0, .ref a), (1, .int (zI x1)), (2, .int (zI 1))] dX12_wins_8 (by decide) rfl ?_
    refine j_aload_n hx 1 dX12_wins_9 rfl ?_
    refine g13_27 hx hG ha kf_RX12_56 dX12_wins_10 ?_
    refine j_sipush hx dX12_wins_13 rfl ?_
    refine j_iload_n hx 3 dX12_wins_16 rfl ?_
    refine j_bipush hx dX12_wins_17 rfl ?_
    refine j_idiv hx dX12_wins_19 ⟨by decide, by decide⟩ ⟨by decide, by decide⟩ (by decide) (fun v9 f10 f11 f12 => ?_)
    refine j_iadd hx (r := v9 + 483) dX12_wins_20 (by omega) ?_
    have f15 := zaQ (j := (v9 + 483).toNat) hS0 (zr (k := 27) (t2 := 84) hG ha rfl) (congrArg some (axS_2 (v9 + 483).toNat (by omega))) (zlen hG (zr (k := 27) (t2 := 84) hG ha rfl) (n := 515) rfl rfl) (show 0 ≤ v9 + 483 by omega) (by omega) rfl
    have c16 := zc_1 (j := (v9 + 483).toNat) hS0 (zr (k := 27) (t2 := 84) hG ha rfl) (zn hG (zr (k := 27) (t2 := 84) hG ha rfl) rfl) (by omega) (by omega)
    refine j_iald hx hG (zr (k := 27) (t2 := 84) hG ha rfl) (by decide) rfl (zlen hG (zr (k := 27) (t2 := 84) hG ha rfl) (n := 515) rfl rfl) (by omega) (by omega) (j := (v9 + 483).toNat) rfl rfl dX12_wins_21 ?_
    refine j_aload_n hx 1 dX12_wins_22 rfl ?_
    refine g13_27 hx hG ha kf_RX12_56 dX12_wins_23 ?_
    refine j_sipush hx dX12_wins_26 rfl ?_
    refine j_iload_n hx 3 dX12_wins_29 rfl ?_
    refine j_bipush hx dX12_wins_30 rfl ?_
    refine j_irem hx dX12_wins_32 ⟨by decide, by decide⟩ ⟨by decide, by decide⟩ (by decide) (fun v17 f18 f19 f20 f21 => ?_)
    refine j_iadd hx (r := v17 + 483) dX12_wins_33 (by omega) ?_
    have f23 := zah (j := (v17 + 483).toNat) hS0 (zr (k := 27) (t2 := 84) hG ha rfl) (fun k => ⟨_, rfl, (axS_h _).1, (axS_h _).2.1⟩) (zlen hG (zr (k := 27) (t2 := 84) hG ha rfl) (n := 515) rfl rfl) (show 0 ≤ v17 + 483 by omega) (by omega) rfl
    refine j_iald hx hG (zr (k := 27) (t2 := 84) hG ha rfl) (by decide) rfl (zlen hG (zr (k := 27) (t2 := 84) hG ha rfl) (n := 515) rfl rfl) (by omega) (by omega) (j := (v17 + 483).toNat) rfl rfl dX12_wins_34 ?_
    refine j_iadd hx (r := (s0 (gP G a 27) (v9 + 483).toNat) + (s0 (gP G a 27) (v17 + 483).toNat)) dX12_wins_35 (by omega) ?_
    refine j_norm (fun v24 f25 f26 f27 => ?_)
    refine j_istore hx [(4, .int (zI v24)), (3, .int (zI v7)), (0, .ref a), (1, .int (zI x1)), (2, .int (zI 1))] dX12_wins_36 (by decide) rfl ?_
    refine j_aload_n hx 2 dX12_wins_38 rfl ?_
    refine j_iload_n hx 4 dX12_wins_39 rfl ?_
    refine j_bipush hx dX12_wins_40 rfl ?_
    refine j_idiv hx dX12_wins_42 ⟨by decide, by decide⟩ ⟨by decide, by decide⟩ (by decide) (fun v28 f29 f30 f31 => ?_)
    refine j_iload_n hx 3 dX12_wins_43 rfl ?_
    refine j_callV hx hG (c_X12_comesToRow hst a v28 x1) lk_RX12_368 ha (by decide) rfl rfl rfl rfl [.int (zI v28), .int (zI x1)] ⟨rfl, hG, hS0, ha, (by omega), (by omega), (by omega)⟩ rfl rfl ⟨by decide, by decide⟩ ⟨by decide, by decide⟩ (k2 := 0) (n2 := 0) rfl rfl (Nat.le_of_ble_eq_true rfl) dX12_wins_44 (kVM (fun s1 hS_s1 hF_s1 q35 => ?_))
    refine j_aload_n hx 2 dX12_wins_47 rfl ?_
    refine j_iload_n hx 4 dX12_wins_48 rfl ?_
    refine j_bipush hx dX12_wins_49 rfl ?_
    refine j_irem hx dX12_wins_51 ⟨by decide, by decide⟩ ⟨by decide, by decide⟩ (by decide) (fun v36 f37 f38 f39 f40 => ?_)
    refine j_iload_n hx 3 dX12_wins_52 rfl ?_
    refine j_callV hx hG (c_X12_comesToRow hst a v36 x1) lk_RX12_368 ha (by decide) rfl rfl rfl rfl [.int (zI v36), .int (zI x1)] ⟨rfl, hG, hS_s1, ha, (by omega), (by omega), (by omega)⟩ rfl rfl ⟨by decide, by decide⟩ ⟨by decide, by decide⟩ (k2 := 0) (n2 := 0) rfl rfl (Nat.le_of_ble_eq_true rfl) dX12_wins_53 (kVM (fun s2 hS_s2 hF_s2 q43 => ?_))
    refine j_aload_n hx 2 dX12_wins_56 rfl ?_
    refine g13_27 hx hG ha kf_RX12_56 dX12_wins_57 ?_
    refine j_sipush hx dX12_wins_60 rfl ?_
    have f44 := zaQ (j := 486) hS_s2 (zr (k := 27) (t2 := 84) hG ha rfl) (congrArg some (axS_2 486 (by omega))) (zlen hG (zr (k := 27) (t2 := 84) hG ha rfl) (n := 515) rfl rfl) (show 0 ≤ 486 by omega) (by omega) rfl
    have c45 := zc_1 (j := 486) hS_s2 (zr (k := 27) (t2 := 84) hG ha rfl) (zn hG (zr (k := 27) (t2 := 84) hG ha rfl) rfl) (by omega) (by omega)
    refine j_iald hx hG (zr (k := 27) (t2 := 84) hG ha rfl) (by decide) rfl (zlen hG (zr (k := 27) (t2 := 84) hG ha rfl) (n := 515) rfl rfl) (by omega) (by omega) (j := 486) rfl rfl dX12_wins_63 ?_
    have c124_3 : ∀ (v46 : Int), (0 ≤ v46 ∧ v46 ≤ 1) → JJ X E 6 G s2 0 0 [(0, .ref a), (1, .int (zI x1)), (4, .int (zI v24))] 124 [.int (zI v46)] := by
      intro v46 fA4
      refine j_istore hx [(5, .int (zI v46)), (0, .ref a), (1, .int (zI x1)), (4, .int (zI v24))] dX12_wins_124 (by decide) rfl ?_
      refine j_iload hx 0 dX12_wins_126 rfl ?_
      refine j_if_ne hx 134 dX12_wins_128 rfl (by omega) (fun h47 => ?_) (fun h47 => ?_)
      · skip
        refine j_iload hx 3 dX12_wins_134 rfl ?_
        refine j_aload_n hx 1 dX12_wins_136 rfl ?_
        refine g13_27 hx hG ha kf_RX12_56 dX12_wins_137 ?_
        refine j_sipush hx dX12_wins_140 rfl ?_
        refine j_iald hx hG (zr (k := 27) (t2 := 84) hG ha rfl) (by decide) rfl (zlen hG (zr (k := 27) (t2 := 84) hG ha rfl) (n := 515) rfl rfl) (by omega) (by omega) (j := 486) rfl rfl dX12_wins_143 ?_
        refine j_iadd hx (r := v24 + (s2 (gP G a 27) 486)) dX12_wins_144 (by omega) ?_
        refine j_norm (fun v48 f49 f50 f51 => ?_)
        refine j_istore hx [(4, .int (zI v48)), (5, .int (zI v46)), (0, .ref a), (1, .int (zI x1))] dX12_wins_145 (by decide) rfl ?_
        refine j_aload_n hx 2 dX12_wins_147 rfl ?_
        refine j_sipush hx dX12_wins_148 rfl ?_
        refine j_sipush hx dX12_wins_151 rfl ?_
        refine j_iconst hx dX12_wins_154 ?_
        refine j_bipush hx dX12_wins_155 rfl ?_
        refine j_iload_n hx 3 dX12_wins_157 rfl ?_
        refine j_imul hx (r := 60 * x1) dX12_wins_158 rfl ?_
        refine j_iadd hx (r := 60 * x1) dX12_wins_159 (by omega) ?_
        refine j_sipush hx dX12_wins_160 rfl ?_
        refine j_iload_n hx 3 dX12_wins_163 rfl ?_
        refine j_iadd hx (r := x1 + 480) dX12_wins_164 (by omega) ?_
        refine j_callV hx hG (c_X12_take hst a 360 486 (60 * x1) (x1 + 480)) lk_RX12_361 ha (by decide) rfl rfl rfl rfl [.int (zI 360), .int (zI 486), .int (zI (60 * x1)), .int (zI (x1 + 480))] ⟨rfl, hG, hS_s2, ha, (by omega), (by omega), (by omega), (by omega), (by omega), (by omega)⟩ rfl rfl ⟨by decide, by decide⟩ ⟨by decide, by decide⟩ (k2 := 0) (n2 := 0) rfl rfl (Nat.le_of_ble_eq_true rfl) dX12_wins_165 (kVM (fun s5 hS_s5 hF_s5 q53 => ?_))
        refine j_aload_n hx 2 dX12_wins_168 rfl ?_
        refine g13_27 hx hG ha kf_RX12_56 dX12_wins_169 ?_
        refine j_sipush hx dX12_wins_172 rfl ?_
        refine j_iload_n hx 3 dX12_wins_175 rfl ?_
        refine j_iadd hx (r := x1 + 480) dX12_wins_176 (by omega) ?_
        refine j_dup2 hx dX12_wins_177 rfl rfl ?_
        have f54 := zaQ (j := (x1 + 480).toNat) hS_s5 (zr (k := 27) (t2 := 84) hG ha rfl) (congrArg some (axS_2 (x1 + 480).toNat (by omega))) (zlen hG (zr (k := 27) (t2 := 84) hG ha rfl) (n := 515) rfl rfl) (show 0 ≤ x1 + 480 by omega) (by omega) rfl
        have c55 := zc_1 (j := (x1 + 480).toNat) hS_s5 (zr (k := 27) (t2 := 84) hG ha rfl) (zn hG (zr (k := 27) (t2 := 84) hG ha rfl) rfl) (by omega) (by omega)
        refine j_iald hx hG (zr (k := 27) (t2 := 84) hG ha rfl) (by decide) rfl (zlen hG (zr (k := 27) (t2 := 84) hG ha rfl) (n := 515) rfl rfl) (by omega) (by omega) (j := (x1 + 480).toNat) rfl rfl dX12_wins_178 ?_
        refine j_aload_n hx 2 dX12_wins_179 rfl ?_
        refine g13_27 hx hG ha kf_RX12_56 dX12_wins_180 ?_
        refine j_sipush hx dX12_wins_183 rfl ?_
        have f56 := zaQ (j := 486) hS_s5 (zr (k := 27) (t2 := 84) hG ha rfl) (congrArg some (axS_2 486 (by omega))) (zlen hG (zr (k := 27) (t2 := 84) hG ha rfl) (n := 515) rfl rfl) (show 0 ≤ 486 by omega) (by omega) rfl
        have c57 := zc_1 (j := 486) hS_s5 (zr (k := 27) (t2 := 84) hG ha rfl) (zn hG (zr (k := 27) (t2 := 84) hG ha rfl) rfl) (by omega) (by omega)
        have c58 : (x1 + 480).toNat ≠ 486 → s5 (gP G a 27) (x1 + 480).toNat + s5 (gP G a 27) 486 ≤ zc (s5 (gP G a 27)) := fun e => zc_2 hS_s5 (zr (k := 27) (t2 := 84) hG ha rfl) (zn hG (zr (k := 27) (t2 := 84) hG ha rfl) rfl) (by omega) (by omega) (by omega) (by omega) e
        refine j_iald hx hG (zr (k := 27) (t2 := 84) hG ha rfl) (by decide) rfl (zlen hG (zr (k := 27) (t2 := 84) hG ha rfl) (n := 515) rfl rfl) (by omega) (by omega) (j := 486) rfl rfl dX12_wins_186 ?_
        refine j_iadd hx (r := (s5 (gP G a 27) (x1 + 480).toNat) + (s5 (gP G a 27) 486)) dX12_wins_187 (by omega) ?_
        refine j_iast hx hG (zr (k := 27) (t2 := 84) hG ha rfl) (by decide) rfl (zlen hG (zr (k := 27) (t2 := 84) hG ha rfl) (n := 515) rfl rfl) (by omega) (by omega) (j := (x1 + 480).toNat) rfl dX12_wins_188 ?_
        obtain ⟨s6, e_s6⟩ : ∃ z, z = zU s5 (gP G a 27) (x1 + 480).toNat ((s5 (gP G a 27) (x1 + 480).toNat) + (s5 (gP G a 27) 486)) := ⟨_, rfl⟩
        rw [← e_s6]
        have hS_s6 : zSK G s6 := by rw [e_s6]; exact zSK_a hS_s5 (zr (k := 27) (t2 := 84) hG ha rfl) rfl rfl (congrArg some (axS_2 (x1 + 480).toNat (by omega))) (by omega)
        have g60 : s6 (gP G a 27) (x1 + 480).toNat = (s5 (gP G a 27) (x1 + 480).toNat) + (s5 (gP G a 27) 486) := (by rw [e_s6, zU_eq])
        have z59 : zc (s6 (gP G a 27)) = zc (s5 (gP G a 27)) - s5 (gP G a 27) (x1 + 480).toNat + s6 (gP G a 27) (x1 + 480).toNat := by rw [e_s6, zU_eq]; exact zc_w (by omega) (by omega)
        refine j_aload_n hx 2 dX12_wins_189 rfl ?_
        refine g13_27 hx hG ha kf_RX12_56 dX12_wins_190 ?_
        refine j_sipush hx dX12_wins_193 rfl ?_
        refine j_iconst hx dX12_wins_196 ?_
        refine j_iast hx hG (zr (k := 27) (t2 := 84) hG ha rfl) (by decide) rfl (zlen hG (zr (k := 27) (t2 := 84) hG ha rfl) (n := 515) rfl rfl) (by omega) (by omega) (j := 486) rfl dX12_wins_197 ?_
        obtain ⟨s7, e_s7⟩ : ∃ z, z = zU s6 (gP G a 27) 486 0 := ⟨_, rfl⟩
        rw [← e_s7]
        have hS_s7 : zSK G s7 := by rw [e_s7]; exact zSK_a hS_s6 (zr (k := 27) (t2 := 84) hG ha rfl) rfl rfl (congrArg some (axS_2 486 (by omega))) (by omega)
        have g62 : s6 (gP G a 27) 486 = s5 (gP G a 27) 486 := (by rw [e_s6, zU_at (Or.inr (by omega))])
        have g63 : s7 (gP G a 27) 486 = 0 := (by rw [e_s7, zU_eq])
        have z61 : zc (s7 (gP G a 27)) = zc (s6 (gP G a 27)) - s6 (gP G a 27) 486 + s7 (gP G a 27) 486 := by rw [e_s7, zU_eq]; exact zc_w (by omega) (by omega)
        refine j_iload hx 0 dX12_wins_198 rfl ?_
        have g64 : s7 (gP G a 27) 488 = s5 (gP G a 27) 488 := (by rw [e_s7, zU_at (Or.inr (by decide)), e_s6, zU_at (Or.inr (by omega))])
        exact j_iret hx hq rfl (by decide) (by decide) dX12_wins_200 ⟨v48, rfl, rfl, hS_s7, (zFr_u (zFr_u (zFr_t (zFr_t (zFr_t zFr_rf hF_s1 (by decide)) hF_s2 (by decide)) hF_s5 (by decide)) e_s6 (zr (k := 27) (t2 := 84) hG ha rfl) (by decide)) e_s7 (zr (k := 27) (t2 := 84) hG ha rfl) (by decide)), ⟨(by omega), by omega, by omega⟩⟩
      · skip
        refine j_iload hx 3 dX12_wins_131 rfl ?_
        exact j_iret hx hq rfl (by decide) (by decide) dX12_wins_133 ⟨v24, rfl, rfl, hS_s2, (zFr_t (zFr_t zFr_rf hF_s1 (by decide)) hF_s2 (by decide)), ⟨(by omega), by omega, by omega⟩⟩
    have c123_8 : JJ X E 6 G s2 0 0 [(0, .ref a), (1, .int (zI x1)), (4, .int (zI v24))] 123 [] := by
      refine j_iconst hx dX12_wins_123 ?_
      exact j_sub [0, 1, 2] [(0, .ref a), (1, .int (zI x1)), (4, .int (zI v24))] rfl (c124_3 0 (by omega))
    refine j_if_le hx 123 dX12_wins_64 rfl (by omega) (fun h65 => ?_) (fun h65 => ?_)
    · skip
      exact j_sub [2, 3, 0] [(0, .ref a), (1, .int (zI x1)), (4, .int (zI v24))] rfl (c123_8  )
    · skip
      refine j_aload_n hx 2 dX12_wins_67 rfl ?_
      refine g13_27 hx hG ha kf_RX12_56 dX12_wins_68 ?_
      refine j_sipush hx dX12_wins_71 rfl ?_
      have f66 := zaQ (j := 493) hS_s2 (zr (k := 27) (t2 := 84) hG ha rfl) (congrArg some (axS_7 493 (by omega))) (zlen hG (zr (k := 27) (t2 := 84) hG ha rfl) (n := 515) rfl rfl) (show 0 ≤ 493 by omega) (by omega) rfl
      refine j_iald hx hG (zr (k := 27) (t2 := 84) hG ha rfl) (by decide) rfl (zlen hG (zr (k := 27) (t2 := 84) hG ha rfl) (n := 515) rfl rfl) (by omega) (by omega) (j := 493) rfl rfl dX12_wins_74 ?_
      refine j_iconst hx dX12_wins_75 ?_
      have c119_9 : JJ X E 6 G s2 0 0 [(0, .ref a), (1, .int (zI x1)), (4, .int (zI v24))] 119 [] := by
        refine j_iconst hx dX12_wins_119 ?_
        refine j_goto hx 124 dX12_wins_120 rfl ?_
        exact j_sub [0, 1, 2] [(0, .ref a), (1, .int (zI x1)), (4, .int (zI v24))] rfl (c124_3 1 (by omega))
      refine j_icmp_eq hx 119 dX12_wins_76 rfl (by omega) ⟨by decide, by decide⟩ (fun h67 => ?_) (fun h67 => ?_)
      · skip
        exact j_sub [2, 3, 0] [(0, .ref a), (1, .int (zI x1)), (4, .int (zI v24))] rfl (c119_9  )
      · skip
        refine j_aload_n hx 2 dX12_wins_79 rfl ?_
        refine g13_27 hx hG ha kf_RX12_56 dX12_wins_80 ?_
        refine j_sipush hx dX12_wins_83 rfl ?_
        refine j_iald hx hG (zr (k := 27) (t2 := 84) hG ha rfl) (by decide) rfl (zlen hG (zr (k := 27) (t2 := 84) hG ha rfl) (n := 515) rfl rfl) (by omega) (by omega) (j := 493) rfl rfl dX12_wins_86 ?_
        refine j_iconst hx dX12_wins_87 ?_
        refine j_icmp_ne hx 123 dX12_wins_88 rfl (by omega) ⟨by decide, by decide⟩ (fun h68 => ?_) (fun h68 => ?_)
        · skip
          exact j_sub [2, 3, 0] [(0, .ref a), (1, .int (zI x1)), (4, .int (zI v24))] rfl (c123_8  )
        · skip
          refine j_aload_n hx 2 dX12_wins_91 rfl ?_
          refine g13_19 hx hG ha kf_RX12_50 dX12_wins_92 ?_
          refine j_aload_n hx 2 dX12_wins_95 rfl ?_
          refine g13_27 hx hG ha kf_RX12_56 dX12_wins_96 ?_
          refine j_sipush hx dX12_wins_99 rfl ?_
          refine j_aload_n hx 2 dX12_wins_102 rfl ?_
          refine g13_27 hx hG ha kf_RX12_56 dX12_wins_103 ?_
          refine j_sipush hx dX12_wins_106 rfl ?_
          refine j_iald hx hG (zr (k := 27) (t2 := 84) hG ha rfl) (by decide) rfl (zlen hG (zr (k := 27) (t2 := 84) hG ha rfl) (n := 515) rfl rfl) (by omega) (by omega) (j := 486) rfl rfl dX12_wins_109 ?_
          refine j_iadd hx (r := (s2 (gP G a 27) 486) + 360) dX12_wins_110 (by omega) ?_
          refine j_iconst hx dX12_wins_111 ?_
          refine j_isub hx (r := (s2 (gP G a 27) 486) + 359) dX12_wins_112 (by omega) ?_
          have f69 := zaQ (j := ((s2 (gP G a 27) 486) + 359).toNat) hS_s2 (zr (k := 27) (t2 := 84) hG ha rfl) (congrArg some (axS_0 ((s2 (gP G a 27) 486) + 359).toNat (by omega))) (zlen hG (zr (k := 27) (t2 := 84) hG ha rfl) (n := 515) rfl rfl) (show 0 ≤ (s2 (gP G a 27) 486) + 359 by omega) (by omega) rfl
          refine j_iald hx hG (zr (k := 27) (t2 := 84) hG ha rfl) (by decide) rfl (zlen hG (zr (k := 27) (t2 := 84) hG ha rfl) (n := 515) rfl rfl) (by omega) (by omega) (j := ((s2 (gP G a 27) 486) + 359).toNat) rfl rfl dX12_wins_113 ?_
          have f70 := zaI (j := ((s2 (gP G a 27) ((s2 (gP G a 27) 486) + 359).toNat)).toNat) hS0 (zr (k := 19) (t2 := 82) hG ha rfl) rfl (zlen hG (zr (k := 19) (t2 := 82) hG ha rfl) (n := 60) rfl rfl) (show 0 ≤ (s2 (gP G a 27) ((s2 (gP G a 27) 486) + 359).toNat) by omega) (by omega) rfl
          refine j_iald hx hG (zr (k := 19) (t2 := 82) hG ha rfl) (by decide) rfl (zlen hG (zr (k := 19) (t2 := 82) hG ha rfl) (n := 60) rfl rfl) (by omega) (by omega) (j := ((s2 (gP G a 27) ((s2 (gP G a 27) 486) + 359).toNat)).toNat) rfl (v := (s0 (gP G a 19) ((s2 (gP G a 27) ((s2 (gP G a 27) 486) + 359).toNat)).toNat)) (by rw [(zFr_g hF_s2 (zr (k := 19) (t2 := 82) hG ha rfl) (by decide)), (zFr_g hF_s1 (zr (k := 19) (t2 := 82) hG ha rfl) (by decide))]) dX12_wins_114 ?_
          refine j_iload_n hx 1 dX12_wins_115 rfl ?_
          refine j_icmp_ne hx 123 dX12_wins_116 rfl (by omega) (by omega) (fun h71 => ?_) (fun h71 => ?_)
          · skip
            exact j_sub [2, 3, 0] [(0, .ref a), (1, .int (zI x1)), (4, .int (zI v24))] rfl (c123_8  )
          · skip
            exact j_sub [2, 3, 0] [(0, .ref a), (1, .int (zI x1)), (4, .int (zI v24))] rfl (c119_9  )
  · skip
    refine j_aload_n hx 0 dX12_wins_0 rfl ?_
    refine j_iload_n hx 2 dX12_wins_1 rfl ?_
    refine j_bipush hx dX12_wins_2 rfl ?_
    refine j_idiv hx dX12_wins_4 ⟨by decide, by decide⟩ ⟨by decide, by decide⟩ (by decide) (fun v72 f73 f74 f75 => ?_)
    refine j_callV hx hG (c_X12_top hst a v72) lk_RX12_334 ha (by decide) rfl rfl rfl rfl [.int (zI v72)] ⟨rfl, hG, hS0, ha, (by omega)⟩ rfl rfl ⟨by decide, by decide⟩ ⟨by decide, by decide⟩ (k2 := 0) (n2 := 0) rfl rfl (Nat.le_of_ble_eq_true rfl) dX12_wins_5 (kIP (fun v78 q79 => ?_))
    refine j_istore_n hx [(3, .int (zI v78)), (0, .ref a), (1, .int (zI x1)), (2, .int (zI 2))] dX12_wins_8 (by decide) rfl ?_
    refine j_aload_n hx 1 dX12_wins_9 rfl ?_
    refine g13_27 hx hG ha kf_RX12_56 dX12_wins_10 ?_
    refine j_sipush hx dX12_wins_13 rfl ?_
    refine j_iload_n hx 3 dX12_wins_16 rfl ?_
    refine j_bipush hx dX12_wins_17 rfl ?_
    refine j_idiv hx dX12_wins_19 ⟨by decide, by decide⟩ ⟨by decide, by decide⟩ (by decide) (fun v80 f81 f82 f83 => ?_)
    refine j_iadd hx (r := v80 + 483) dX12_wins_20 (by omega) ?_
    have f86 := zaQ (j := (v80 + 483).toNat) hS0 (zr (k := 27) (t2 := 84) hG ha rfl) (congrArg some (axS_2 (v80 + 483).toNat (by omega))) (zlen hG (zr (k := 27) (t2 := 84) hG ha rfl) (n := 515) rfl rfl) (show 0 ≤ v80 + 483 by omega) (by omega) rfl
    have c87 := zc_1 (j := (v80 + 483).toNat) hS0 (zr (k := 27) (t2 := 84) hG ha rfl) (zn hG (zr (k := 27) (t2 := 84) hG ha rfl) rfl) (by omega) (by omega)
    refine j_iald hx hG (zr (k := 27) (t2 := 84) hG ha rfl) (by decide) rfl (zlen hG (zr (k := 27) (t2 := 84) hG ha rfl) (n := 515) rfl rfl) (by omega) (by omega) (j := (v80 + 483).toNat) rfl rfl dX12_wins_21 ?_
    refine j_aload_n hx 1 dX12_wins_22 rfl ?_
    refine g13_27 hx hG ha kf_RX12_56 dX12_wins_23 ?_
    refine j_sipush hx dX12_wins_26 rfl ?_
    refine j_iload_n hx 3 dX12_wins_29 rfl ?_
    refine j_bipush hx dX12_wins_30 rfl ?_
    refine j_irem hx dX12_wins_32 ⟨by decide, by decide⟩ ⟨by decide, by decide⟩ (by decide) (fun v88 f89 f90 f91 f92 => ?_)
    refine j_iadd hx (r := v88 + 483) dX12_wins_33 (by omega) ?_
    have f94 := zah (j := (v88 + 483).toNat) hS0 (zr (k := 27) (t2 := 84) hG ha rfl) (fun k => ⟨_, rfl, (axS_h _).1, (axS_h _).2.1⟩) (zlen hG (zr (k := 27) (t2 := 84) hG ha rfl) (n := 515) rfl rfl) (show 0 ≤ v88 + 483 by omega) (by omega) rfl
    refine j_iald hx hG (zr (k := 27) (t2 := 84) hG ha rfl) (by decide) rfl (zlen hG (zr (k := 27) (t2 := 84) hG ha rfl) (n := 515) rfl rfl) (by omega) (by omega) (j := (v88 + 483).toNat) rfl rfl dX12_wins_34 ?_
    refine j_iadd hx (r := (s0 (gP G a 27) (v80 + 483).toNat) + (s0 (gP G a 27) (v88 + 483).toNat)) dX12_wins_35 (by omega) ?_
    refine j_norm (fun v95 f96 f97 f98 => ?_)
    refine j_istore hx [(4, .int (zI v95)), (3, .int (zI v78)), (0, .ref a), (1, .int (zI x1)), (2, .int (zI 2))] dX12_wins_36 (by decide) rfl ?_
    refine j_aload_n hx 2 dX12_wins_38 rfl ?_
    refine j_iload_n hx 4 dX12_wins_39 rfl ?_
    refine j_bipush hx dX12_wins_40 rfl ?_
    refine j_idiv hx dX12_wins_42 ⟨by decide, by decide⟩ ⟨by decide, by decide⟩ (by decide) (fun v99 f100 f101 f102 => ?_)
    refine j_iload_n hx 3 dX12_wins_43 rfl ?_
    refine j_callV hx hG (c_X12_comesToRow hst a v99 x1) lk_RX12_368 ha (by decide) rfl rfl rfl rfl [.int (zI v99), .int (zI x1)] ⟨rfl, hG, hS0, ha, (by omega), (by omega), (by omega)⟩ rfl rfl ⟨by decide, by decide⟩ ⟨by decide, by decide⟩ (k2 := 0) (n2 := 0) rfl rfl (Nat.le_of_ble_eq_true rfl) dX12_wins_44 (kVM (fun s10 hS_s10 hF_s10 q106 => ?_))
    refine j_aload_n hx 2 dX12_wins_47 rfl ?_
    refine j_iload_n hx 4 dX12_wins_48 rfl ?_
    refine j_bipush hx dX12_wins_49 rfl ?_
    refine j_irem hx dX12_wins_51 ⟨by decide, by decide⟩ ⟨by decide, by decide⟩ (by decide) (fun v107 f108 f109 f110 f111 => ?_)
    refine j_iload_n hx 3 dX12_wins_52 rfl ?_
    refine j_callV hx hG (c_X12_comesToRow hst a v107 x1) lk_RX12_368 ha (by decide) rfl rfl rfl rfl [.int (zI v107), .int (zI x1)] ⟨rfl, hG, hS_s10, ha, (by omega), (by omega), (by omega)⟩ rfl rfl ⟨by decide, by decide⟩ ⟨by decide, by decide⟩ (k2 := 0) (n2 := 0) rfl rfl (Nat.le_of_ble_eq_true rfl) dX12_wins_53 (kVM (fun s11 hS_s11 hF_s11 q114 => ?_))
    refine j_aload_n hx 2 dX12_wins_56 rfl ?_
    refine g13_27 hx hG ha kf_RX12_56 dX12_wins_57 ?_
    refine j_sipush hx dX12_wins_60 rfl ?_
    have f115 := zaQ (j := 486) hS_s11 (zr (k := 27) (t2 := 84) hG ha rfl) (congrArg some (axS_2 486 (by omega))) (zlen hG (zr (k := 27) (t2 := 84) hG ha rfl) (n := 515) rfl rfl) (show 0 ≤ 486 by omega) (by omega) rfl
    have c116 := zc_1 (j := 486) hS_s11 (zr (k := 27) (t2 := 84) hG ha rfl) (zn hG (zr (k := 27) (t2 := 84) hG ha rfl) rfl) (by omega) (by omega)
    refine j_iald hx hG (zr (k := 27) (t2 := 84) hG ha rfl) (by decide) rfl (zlen hG (zr (k := 27) (t2 := 84) hG ha rfl) (n := 515) rfl rfl) (by omega) (by omega) (j := 486) rfl rfl dX12_wins_63 ?_
    have c124_12 : ∀ (v117 : Int), (0 ≤ v117 ∧ v117 ≤ 1) → JJ X E 6 G s11 0 0 [(0, .ref a), (1, .int (zI x1)), (4, .int (zI v95))] 124 [.int (zI v117)] := by
      intro v117 fA13
      refine j_istore hx [(5, .int (zI v117)), (0, .ref a), (1, .int (zI x1)), (4, .int (zI v95))] dX12_wins_124 (by decide) rfl ?_
      refine j_iload hx 0 dX12_wins_126 rfl ?_
      refine j_if_ne hx 134 dX12_wins_128 rfl (by omega) (fun h118 => ?_) (fun h118 => ?_)
      · skip
        refine j_iload hx 3 dX12_wins_134 rfl ?_
        refine j_aload_n hx 1 dX12_wins_136 rfl ?_
        refine g13_27 hx hG ha kf_RX12_56 dX12_wins_137 ?_
        refine j_sipush hx dX12_wins_140 rfl ?_
        refine j_iald hx hG (zr (k := 27) (t2 := 84) hG ha rfl) (by decide) rfl (zlen hG (zr (k := 27) (t2 := 84) hG ha rfl) (n := 515) rfl rfl) (by omega) (by omega) (j := 486) rfl rfl dX12_wins_143 ?_
        refine j_iadd hx (r := v95 + (s11 (gP G a 27) 486)) dX12_wins_144 (by omega) ?_
        refine j_norm (fun v119 f120 f121 f122 => ?_)
        refine j_istore hx [(4, .int (zI v119)), (5, .int (zI v117)), (0, .ref a), (1, .int (zI x1))] dX12_wins_145 (by decide) rfl ?_
        refine j_aload_n hx 2 dX12_wins_147 rfl ?_
        refine j_sipush hx dX12_wins_148 rfl ?_
        refine j_sipush hx dX12_wins_151 rfl ?_
        refine j_iconst hx dX12_wins_154 ?_
        refine j_bipush hx dX12_wins_155 rfl ?_
        refine j_iload_n hx 3 dX12_wins_157 rfl ?_
        refine j_imul hx (r := 60 * x1) dX12_wins_158 rfl ?_
        refine j_iadd hx (r := 60 * x1) dX12_wins_159 (by omega) ?_
        refine j_sipush hx dX12_wins_160 rfl ?_
        refine j_iload_n hx 3 dX12_wins_163 rfl ?_
        refine j_iadd hx (r := x1 + 480) dX12_wins_164 (by omega) ?_
        refine j_callV hx hG (c_X12_take hst a 360 486 (60 * x1) (x1 + 480)) lk_RX12_361 ha (by decide) rfl rfl rfl rfl [.int (zI 360), .int (zI 486), .int (zI (60 * x1)), .int (zI (x1 + 480))] ⟨rfl, hG, hS_s11, ha, (by omega), (by omega), (by omega), (by omega), (by omega), (by omega)⟩ rfl rfl ⟨by decide, by decide⟩ ⟨by decide, by decide⟩ (k2 := 0) (n2 := 0) rfl rfl (Nat.le_of_ble_eq_true rfl) dX12_wins_165 (kVM (fun s14 hS_s14 hF_s14 q124 => ?_))
        refine j_aload_n hx 2 dX12_wins_168 rfl ?_
        refine g13_27 hx hG ha kf_RX12_56 dX12_wins_169 ?_
        refine j_sipush hx dX12_wins_172 rfl ?_
        refine j_iload_n hx 3 dX12_wins_175 rfl ?_
        refine j_iadd hx (r := x1 + 480) dX12_wins_176 (by omega) ?_
        refine j_dup2 hx dX12_wins_177 rfl rfl ?_
        have f125 := zaQ (j := (x1 + 480).toNat) hS_s14 (zr (k := 27) (t2 := 84) hG ha rfl) (congrArg some (axS_2 (x1 + 480).toNat (by omega))) (zlen hG (zr (k := 27) (t2 := 84) hG ha rfl) (n := 515) rfl rfl) (show 0 ≤ x1 + 480 by omega) (by omega) rfl
        have c126 := zc_1 (j := (x1 + 480).toNat) hS_s14 (zr (k := 27) (t2 := 84) hG ha rfl) (zn hG (zr (k := 27) (t2 := 84) hG ha rfl) rfl) (by omega) (by omega)
        refine j_iald hx hG (zr (k := 27) (t2 := 84) hG ha rfl) (by decide) rfl (zlen hG (zr (k := 27) (t2 := 84) hG ha rfl) (n := 515) rfl rfl) (by omega) (by omega) (j := (x1 + 480).toNat) rfl rfl dX12_wins_178 ?_
        refine j_aload_n hx 2 dX12_wins_179 rfl ?_
        refine g13_27 hx hG ha kf_RX12_56 dX12_wins_180 ?_
        refine j_sipush hx dX12_wins_183 rfl ?_
        have f127 := zaQ (j := 486) hS_s14 (zr (k := 27) (t2 := 84) hG ha rfl) (congrArg some (axS_2 486 (by omega))) (zlen hG (zr (k := 27) (t2 := 84) hG ha rfl) (n := 515) rfl rfl) (show 0 ≤ 486 by omega) (by omega) rfl
        have c128 := zc_1 (j := 486) hS_s14 (zr (k := 27) (t2 := 84) hG ha rfl) (zn hG (zr (k := 27) (t2 := 84) hG ha rfl) rfl) (by omega) (by omega)
        have c129 : (x1 + 480).toNat ≠ 486 → s14 (gP G a 27) (x1 + 480).toNat + s14 (gP G a 27) 486 ≤ zc (s14 (gP G a 27)) := fun e => zc_2 hS_s14 (zr (k := 27) (t2 := 84) hG ha rfl) (zn hG (zr (k := 27) (t2 := 84) hG ha rfl) rfl) (by omega) (by omega) (by omega) (by omega) e
        refine j_iald hx hG (zr (k := 27) (t2 := 84) hG ha rfl) (by decide) rfl (zlen hG (zr (k := 27) (t2 := 84) hG ha rfl) (n := 515) rfl rfl) (by omega) (by omega) (j := 486) rfl rfl dX12_wins_186 ?_
        refine j_iadd hx (r := (s14 (gP G a 27) (x1 + 480).toNat) + (s14 (gP G a 27) 486)) dX12_wins_187 (by omega) ?_
        refine j_iast hx hG (zr (k := 27) (t2 := 84) hG ha rfl) (by decide) rfl (zlen hG (zr (k := 27) (t2 := 84) hG ha rfl) (n := 515) rfl rfl) (by omega) (by omega) (j := (x1 + 480).toNat) rfl dX12_wins_188 ?_
        obtain ⟨s15, e_s15⟩ : ∃ z, z = zU s14 (gP G a 27) (x1 + 480).toNat ((s14 (gP G a 27) (x1 + 480).toNat) + (s14 (gP G a 27) 486)) := ⟨_, rfl⟩
        rw [← e_s15]
        have hS_s15 : zSK G s15 := by rw [e_s15]; exact zSK_a hS_s14 (zr (k := 27) (t2 := 84) hG ha rfl) rfl rfl (congrArg some (axS_2 (x1 + 480).toNat (by omega))) (by omega)
        have g131 : s15 (gP G a 27) (x1 + 480).toNat = (s14 (gP G a 27) (x1 + 480).toNat) + (s14 (gP G a 27) 486) := (by rw [e_s15, zU_eq])
        have z130 : zc (s15 (gP G a 27)) = zc (s14 (gP G a 27)) - s14 (gP G a 27) (x1 + 480).toNat + s15 (gP G a 27) (x1 + 480).toNat := by rw [e_s15, zU_eq]; exact zc_w (by omega) (by omega)
        refine j_aload_n hx 2 dX12_wins_189 rfl ?_
        refine g13_27 hx hG ha kf_RX12_56 dX12_wins_190 ?_
        refine j_sipush hx dX12_wins_193 rfl ?_
        refine j_iconst hx dX12_wins_196 ?_
        refine j_iast hx hG (zr (k := 27) (t2 := 84) hG ha rfl) (by decide) rfl (zlen hG (zr (k := 27) (t2 := 84) hG ha rfl) (n := 515) rfl rfl) (by omega) (by omega) (j := 486) rfl dX12_wins_197 ?_
        obtain ⟨s16, e_s16⟩ : ∃ z, z = zU s15 (gP G a 27) 486 0 := ⟨_, rfl⟩
        rw [← e_s16]
        have hS_s16 : zSK G s16 := by rw [e_s16]; exact zSK_a hS_s15 (zr (k := 27) (t2 := 84) hG ha rfl) rfl rfl (congrArg some (axS_2 486 (by omega))) (by omega)
        have g133 : s15 (gP G a 27) 486 = s14 (gP G a 27) 486 := (by rw [e_s15, zU_at (Or.inr (by omega))])
        have g134 : s16 (gP G a 27) 486 = 0 := (by rw [e_s16, zU_eq])
        have z132 : zc (s16 (gP G a 27)) = zc (s15 (gP G a 27)) - s15 (gP G a 27) 486 + s16 (gP G a 27) 486 := by rw [e_s16, zU_eq]; exact zc_w (by omega) (by omega)
        refine j_iload hx 0 dX12_wins_198 rfl ?_
        have g135 : s16 (gP G a 27) 488 = s14 (gP G a 27) 488 := (by rw [e_s16, zU_at (Or.inr (by decide)), e_s15, zU_at (Or.inr (by omega))])
        exact j_iret hx hq rfl (by decide) (by decide) dX12_wins_200 ⟨v119, rfl, rfl, hS_s16, (zFr_u (zFr_u (zFr_t (zFr_t (zFr_t zFr_rf hF_s10 (by decide)) hF_s11 (by decide)) hF_s14 (by decide)) e_s15 (zr (k := 27) (t2 := 84) hG ha rfl) (by decide)) e_s16 (zr (k := 27) (t2 := 84) hG ha rfl) (by decide)), ⟨(by omega), by omega, by omega⟩⟩
      · skip
        refine j_iload hx 3 dX12_wins_131 rfl ?_
        exact j_iret hx hq rfl (by decide) (by decide) dX12_wins_133 ⟨v95, rfl, rfl, hS_s11, (zFr_t (zFr_t zFr_rf hF_s10 (by decide)) hF_s11 (by decide)), ⟨(by omega), by omega, by omega⟩⟩
    have c123_17 : JJ X E 6 G s11 0 0 [(0, .ref a), (1, .int (zI x1)), (4, .int (zI v95))] 123 [] := by
      refine j_iconst hx dX12_wins_123 ?_
      exact j_sub [0, 1, 2] [(0, .ref a), (1, .int (zI x1)), (4, .int (zI v95))] rfl (c124_12 0 (by omega))
    refine j_if_le hx 123 dX12_wins_64 rfl (by omega) (fun h136 => ?_) (fun h136 => ?_)
    · skip
      exact j_sub [2, 3, 0] [(0, .ref a), (1, .int (zI x1)), (4, .int (zI v95))] rfl (c123_17  )
    · skip
      refine j_aload_n hx 2 dX12_wins_67 rfl ?_
      refine g13_27 hx hG ha kf_RX12_56 dX12_wins_68 ?_
      refine j_sipush hx dX12_wins_71 rfl ?_
      have f137 := zaQ (j := 493) hS_s11 (zr (k := 27) (t2 := 84) hG ha rfl) (congrArg some (axS_7 493 (by omega))) (zlen hG (zr (k := 27) (t2 := 84) hG ha rfl) (n := 515) rfl rfl) (show 0 ≤ 493 by omega) (by omega) rfl
      refine j_iald hx hG (zr (k := 27) (t2 := 84) hG ha rfl) (by decide) rfl (zlen hG (zr (k := 27) (t2 := 84) hG ha rfl) (n := 515) rfl rfl) (by omega) (by omega) (j := 493) rfl rfl dX12_wins_74 ?_
      refine j_iconst hx dX12_wins_75 ?_
      have c119_18 : JJ X E 6 G s11 0 0 [(0, .ref a), (1, .int (zI x1)), (4, .int (zI v95))] 119 [] := by
        refine j_iconst hx dX12_wins_119 ?_
        refine j_goto hx 124 dX12_wins_120 rfl ?_
        exact j_sub [0, 1, 2] [(0, .ref a), (1, .int (zI x1)), (4, .int (zI v95))] rfl (c124_12 1 (by omega))
      refine j_icmp_eq hx 119 dX12_wins_76 rfl (by omega) ⟨by decide, by decide⟩ (fun h138 => ?_) (fun h138 => ?_)
      · skip
        exact j_sub [2, 3, 0] [(0, .ref a), (1, .int (zI x1)), (4, .int (zI v95))] rfl (c119_18  )
      · skip
        refine j_aload_n hx 2 dX12_wins_79 rfl ?_
        refine g13_27 hx hG ha kf_RX12_56 dX12_wins_80 ?_
        refine j_sipush hx dX12_wins_83 rfl ?_
        refine j_iald hx hG (zr (k := 27) (t2 := 84) hG ha rfl) (by decide) rfl (zlen hG (zr (k := 27) (t2 := 84) hG ha rfl) (n := 515) rfl rfl) (by omega) (by omega) (j := 493) rfl rfl dX12_wins_86 ?_
        refine j_iconst hx dX12_wins_87 ?_
        refine j_icmp_ne hx 123 dX12_wins_88 rfl (by omega) ⟨by decide, by decide⟩ (fun h139 => ?_) (fun h139 => ?_)
        · skip
          exact j_sub [2, 3, 0] [(0, .ref a), (1, .int (zI x1)), (4, .int (zI v95))] rfl (c123_17  )
        · skip
          refine j_aload_n hx 2 dX12_wins_91 rfl ?_
          refine g13_19 hx hG ha kf_RX12_50 dX12_wins_92 ?_
          refine j_aload_n hx 2 dX12_wins_95 rfl ?_
          refine g13_27 hx hG ha kf_RX12_56 dX12_wins_96 ?_
          refine j_sipush hx dX12_wins_99 rfl ?_
          refine j_aload_n hx 2 dX12_wins_102 rfl ?_
          refine g13_27 hx hG ha kf_RX12_56 dX12_wins_103 ?_
          refine j_sipush hx dX12_wins_106 rfl ?_
          refine j_iald hx hG (zr (k := 27) (t2 := 84) hG ha rfl) (by decide) rfl (zlen hG (zr (k := 27) (t2 := 84) hG ha rfl) (n := 515) rfl rfl) (by omega) (by omega) (j := 486) rfl rfl dX12_wins_109 ?_
          refine j_iadd hx (r := (s11 (gP G a 27) 486) + 360) dX12_wins_110 (by omega) ?_
          refine j_iconst hx dX12_wins_111 ?_
          refine j_isub hx (r := (s11 (gP G a 27) 486) + 359) dX12_wins_112 (by omega) ?_
          have f140 := zaQ (j := ((s11 (gP G a 27) 486) + 359).toNat) hS_s11 (zr (k := 27) (t2 := 84) hG ha rfl) (congrArg some (axS_0 ((s11 (gP G a 27) 486) + 359).toNat (by omega))) (zlen hG (zr (k := 27) (t2 := 84) hG ha rfl) (n := 515) rfl rfl) (show 0 ≤ (s11 (gP G a 27) 486) + 359 by omega) (by omega) rfl
          refine j_iald hx hG (zr (k := 27) (t2 := 84) hG ha rfl) (by decide) rfl (zlen hG (zr (k := 27) (t2 := 84) hG ha rfl) (n := 515) rfl rfl) (by omega) (by omega) (j := ((s11 (gP G a 27) 486) + 359).toNat) rfl rfl dX12_wins_113 ?_
          have f141 := zaI (j := ((s11 (gP G a 27) ((s11 (gP G a 27) 486) + 359).toNat)).toNat) hS0 (zr (k := 19) (t2 := 82) hG ha rfl) rfl (zlen hG (zr (k := 19) (t2 := 82) hG ha rfl) (n := 60) rfl rfl) (show 0 ≤ (s11 (gP G a 27) ((s11 (gP G a 27) 486) + 359).toNat) by omega) (by omega) rfl
          refine j_iald hx hG (zr (k := 19) (t2 := 82) hG ha rfl) (by decide) rfl (zlen hG (zr (k := 19) (t2 := 82) hG ha rfl) (n := 60) rfl rfl) (by omega) (by omega) (j := ((s11 (gP G a 27) ((s11 (gP G a 27) 486) + 359).toNat)).toNat) rfl (v := (s0 (gP G a 19) ((s11 (gP G a 27) ((s11 (gP G a 27) 486) + 359).toNat)).toNat)) (by rw [(zFr_g hF_s11 (zr (k := 19) (t2 := 82) hG ha rfl) (by decide)), (zFr_g hF_s10 (zr (k := 19) (t2 := 82) hG ha rfl) (by decide))]) dX12_wins_114 ?_
          refine j_iload_n hx 1 dX12_wins_115 rfl ?_
          refine j_icmp_ne hx 123 dX12_wins_116 rfl (by omega) (by omega) (fun h142 => ?_) (fun h142 => ?_)
          · skip
            exact j_sub [2, 3, 0] [(0, .ref a), (1, .int (zI x1)), (4, .int (zI v95))] rfl (c123_17  )
          · skip
            exact j_sub [2, 3, 0] [(0, .ref a), (1, .int (zI x1)), (4, .int (zI v95))] rfl (c119_18  )
  · skip
    refine j_aload_n hx 0 dX12_wins_0 rfl ?_
    refine j_iload_n hx 2 dX12_wins_1 rfl ?_
    refine j_bipush hx dX12_wins_2 rfl ?_
    refine j_idiv hx dX12_wins_4 ⟨by decide, by decide⟩ ⟨by decide, by decide⟩ (by decide) (fun v143 f144 f145 f146 => ?_)
    refine j_callV hx hG (c_X12_top hst a v143) lk_RX12_334 ha (by decide) rfl rfl rfl rfl [.int (zI v143)] ⟨rfl, hG, hS0, ha, (by omega)⟩ rfl rfl ⟨by decide, by decide⟩ ⟨by decide, by decide⟩ (k2 := 0) (n2 := 0) rfl rfl (Nat.le_of_ble_eq_true rfl) dX12_wins_5 (kIP (fun v149 q150 => ?_))
    refine j_istore_n hx [(3, .int (zI v149)), (0, .ref a), (1, .int (zI x1)), (2, .int (zI 12))] dX12_wins_8 (by decide) rfl ?_
    refine j_aload_n hx 1 dX12_wins_9 rfl ?_
    refine g13_27 hx hG ha kf_RX12_56 dX12_wins_10 ?_
    refine j_sipush hx dX12_wins_13 rfl ?_
    refine j_iload_n hx 3 dX12_wins_16 rfl ?_
    refine j_bipush hx dX12_wins_17 rfl ?_
    refine j_idiv hx dX12_wins_19 ⟨by decide, by decide⟩ ⟨by decide, by decide⟩ (by decide) (fun v151 f152 f153 f154 => ?_)
    refine j_iadd hx (r := v151 + 483) dX12_wins_20 (by omega) ?_
    have f157 := zaQ (j := (v151 + 483).toNat) hS0 (zr (k := 27) (t2 := 84) hG ha rfl) (congrArg some (axS_2 (v151 + 483).toNat (by omega))) (zlen hG (zr (k := 27) (t2 := 84) hG ha rfl) (n := 515) rfl rfl) (show 0 ≤ v151 + 483 by omega) (by omega) rfl
    have c158 := zc_1 (j := (v151 + 483).toNat) hS0 (zr (k := 27) (t2 := 84) hG ha rfl) (zn hG (zr (k := 27) (t2 := 84) hG ha rfl) rfl) (by omega) (by omega)
    refine j_iald hx hG (zr (k := 27) (t2 := 84) hG ha rfl) (by decide) rfl (zlen hG (zr (k := 27) (t2 := 84) hG ha rfl) (n := 515) rfl rfl) (by omega) (by omega) (j := (v151 + 483).toNat) rfl rfl dX12_wins_21 ?_
    refine j_aload_n hx 1 dX12_wins_22 rfl ?_
    refine g13_27 hx hG ha kf_RX12_56 dX12_wins_23 ?_
    refine j_sipush hx dX12_wins_26 rfl ?_
    refine j_iload_n hx 3 dX12_wins_29 rfl ?_
    refine j_bipush hx dX12_wins_30 rfl ?_
    refine j_irem hx dX12_wins_32 ⟨by decide, by decide⟩ ⟨by decide, by decide⟩ (by decide) (fun v159 f160 f161 f162 f163 => ?_)
    refine j_iadd hx (r := v159 + 483) dX12_wins_33 (by omega) ?_
    have f165 := zah (j := (v159 + 483).toNat) hS0 (zr (k := 27) (t2 := 84) hG ha rfl) (fun k => ⟨_, rfl, (axS_h _).1, (axS_h _).2.1⟩) (zlen hG (zr (k := 27) (t2 := 84) hG ha rfl) (n := 515) rfl rfl) (show 0 ≤ v159 + 483 by omega) (by omega) rfl
    refine j_iald hx hG (zr (k := 27) (t2 := 84) hG ha rfl) (by decide) rfl (zlen hG (zr (k := 27) (t2 := 84) hG ha rfl) (n := 515) rfl rfl) (by omega) (by omega) (j := (v159 + 483).toNat) rfl rfl dX12_wins_34 ?_
    refine j_iadd hx (r := (s0 (gP G a 27) (v151 + 483).toNat) + (s0 (gP G a 27) (v159 + 483).toNat)) dX12_wins_35 (by omega) ?_
    refine j_norm (fun v166 f167 f168 f169 => ?_)
    refine j_istore hx [(4, .int (zI v166)), (3, .int (zI v149)), (0, .ref a), (1, .int (zI x1)), (2, .int (zI 12))] dX12_wins_36 (by decide) rfl ?_
    refine j_aload_n hx 2 dX12_wins_38 rfl ?_
    refine j_iload_n hx 4 dX12_wins_39 rfl ?_
    refine j_bipush hx dX12_wins_40 rfl ?_
    refine j_idiv hx dX12_wins_42 ⟨by decide, by decide⟩ ⟨by decide, by decide⟩ (by decide) (fun v170 f171 f172 f173 => ?_)
    refine j_iload_n hx 3 dX12_wins_43 rfl ?_
    refine j_callV hx hG (c_X12_comesToRow hst a v170 x1) lk_RX12_368 ha (by decide) rfl rfl rfl rfl [.int (zI v170), .int (zI x1)] ⟨rfl, hG, hS0, ha, (by omega), (by omega), (by omega)⟩ rfl rfl ⟨by decide, by decide⟩ ⟨by decide, by decide⟩ (k2 := 0) (n2 := 0) rfl rfl (Nat.le_of_ble_eq_true rfl) dX12_wins_44 (kVM (fun s19 hS_s19 hF_s19 q177 => ?_))
    refine j_aload_n hx 2 dX12_wins_47 rfl ?_
    refine j_iload_n hx 4 dX12_wins_48 rfl ?_
    refine j_bipush hx dX12_wins_49 rfl ?_
    refine j_irem hx dX12_wins_51 ⟨by decide, by decide⟩ ⟨by decide, by decide⟩ (by decide) (fun v178 f179 f180 f181 f182 => ?_)
    refine j_iload_n hx 3 dX12_wins_52 rfl ?_
    refine j_callV hx hG (c_X12_comesToRow hst a v178 x1) lk_RX12_368 ha (by decide) rfl rfl rfl rfl [.int (zI v178), .int (zI x1)] ⟨rfl, hG, hS_s19, ha, (by omega), (by omega), (by omega)⟩ rfl rfl ⟨by decide, by decide⟩ ⟨by decide, by decide⟩ (k2 := 0) (n2 := 0) rfl rfl (Nat.le_of_ble_eq_true rfl) dX12_wins_53 (kVM (fun s20 hS_s20 hF_s20 q185 => ?_))
    refine j_aload_n hx 2 dX12_wins_56 rfl ?_
    refine g13_27 hx hG ha kf_RX12_56 dX12_wins_57 ?_
    refine j_sipush hx dX12_wins_60 rfl ?_
    have f186 := zaQ (j := 486) hS_s20 (zr (k := 27) (t2 := 84) hG ha rfl) (congrArg some (axS_2 486 (by omega))) (zlen hG (zr (k := 27) (t2 := 84) hG ha rfl) (n := 515) rfl rfl) (show 0 ≤ 486 by omega) (by omega) rfl
    have c187 := zc_1 (j := 486) hS_s20 (zr (k := 27) (t2 := 84) hG ha rfl) (zn hG (zr (k := 27) (t2 := 84) hG ha rfl) rfl) (by omega) (by omega)
    refine j_iald hx hG (zr (k := 27) (t2 := 84) hG ha rfl) (by decide) rfl (zlen hG (zr (k := 27) (t2 := 84) hG ha rfl) (n := 515) rfl rfl) (by omega) (by omega) (j := 486) rfl rfl dX12_wins_63 ?_
    have c124_21 : ∀ (v188 : Int), (0 ≤ v188 ∧ v188 ≤ 1) → JJ X E 6 G s20 0 0 [(0, .ref a), (1, .int (zI x1)), (4, .int (zI v166))] 124 [.int (zI v188)] := by
      intro v188 fA22
      refine j_istore hx [(5, .int (zI v188)), (0, .ref a), (1, .int (zI x1)), (4, .int (zI v166))] dX12_wins_124 (by decide) rfl ?_
      refine j_iload hx 0 dX12_wins_126 rfl ?_
      refine j_if_ne hx 134 dX12_wins_128 rfl (by omega) (fun h189 => ?_) (fun h189 => ?_)
      · skip
        refine j_iload hx 3 dX12_wins_134 rfl ?_
        refine j_aload_n hx 1 dX12_wins_136 rfl ?_
        refine g13_27 hx hG ha kf_RX12_56 dX12_wins_137 ?_
        refine j_sipush hx dX12_wins_140 rfl ?_
        refine j_iald hx hG (zr (k := 27) (t2 := 84) hG ha rfl) (by decide) rfl (zlen hG (zr (k := 27) (t2 := 84) hG ha rfl) (n := 515) rfl rfl) (by omega) (by omega) (j := 486) rfl rfl dX12_wins_143 ?_
        refine j_iadd hx (r := v166 + (s20 (gP G a 27) 486)) dX12_wins_144 (by omega) ?_
        refine j_norm (fun v190 f191 f192 f193 => ?_)
        refine j_istore hx [(4, .int (zI v190)), (5, .int (zI v188)), (0, .ref a), (1, .int (zI x1))] dX12_wins_145 (by decide) rfl ?_
        refine j_aload_n hx 2 dX12_wins_147 rfl ?_
        refine j_sipush hx dX12_wins_148 rfl ?_
        refine j_sipush hx dX12_wins_151 rfl ?_
        refine j_iconst hx dX12_wins_154 ?_
        refine j_bipush hx dX12_wins_155 rfl ?_
        refine j_iload_n hx 3 dX12_wins_157 rfl ?_
        refine j_imul hx (r := 60 * x1) dX12_wins_158 rfl ?_
        refine j_iadd hx (r := 60 * x1) dX12_wins_159 (by omega) ?_
        refine j_sipush hx dX12_wins_160 rfl ?_
        refine j_iload_n hx 3 dX12_wins_163 rfl ?_
        refine j_iadd hx (r := x1 + 480) dX12_wins_164 (by omega) ?_
        refine j_callV hx hG (c_X12_take hst a 360 486 (60 * x1) (x1 + 480)) lk_RX12_361 ha (by decide) rfl rfl rfl rfl [.int (zI 360), .int (zI 486), .int (zI (60 * x1)), .int (zI (x1 + 480))] ⟨rfl, hG, hS_s20, ha, (by omega), (by omega), (by omega), (by omega), (by omega), (by omega)⟩ rfl rfl ⟨by decide, by decide⟩ ⟨by decide, by decide⟩ (k2 := 0) (n2 := 0) rfl rfl (Nat.le_of_ble_eq_true rfl) dX12_wins_165 (kVM (fun s23 hS_s23 hF_s23 q195 => ?_))
        refine j_aload_n hx 2 dX12_wins_168 rfl ?_
        refine g13_27 hx hG ha kf_RX12_56 dX12_wins_169 ?_
        refine j_sipush hx dX12_wins_172 rfl ?_
        refine j_iload_n hx 3 dX12_wins_175 rfl ?_
        refine j_iadd hx (r := x1 + 480) dX12_wins_176 (by omega) ?_
        refine j_dup2 hx dX12_wins_177 rfl rfl ?_
        have f196 := zaQ (j := (x1 + 480).toNat) hS_s23 (zr (k := 27) (t2 := 84) hG ha rfl) (congrArg some (axS_2 (x1 + 480).toNat (by omega))) (zlen hG (zr (k := 27) (t2 := 84) hG ha rfl) (n := 515) rfl rfl) (show 0 ≤ x1 + 480 by omega) (by omega) rfl
        have c197 := zc_1 (j := (x1 + 480).toNat) hS_s23 (zr (k := 27) (t2 := 84) hG ha rfl) (zn hG (zr (k := 27) (t2 := 84) hG ha rfl) rfl) (by omega) (by omega)
        refine j_iald hx hG (zr (k := 27) (t2 := 84) hG ha rfl) (by decide) rfl (zlen hG (zr (k := 27) (t2 := 84) hG ha rfl) (n := 515) rfl rfl) (by omega) (by omega) (j := (x1 + 480).toNat) rfl rfl dX12_wins_178 ?_
        refine j_aload_n hx 2 dX12_wins_179 rfl ?_
        refine g13_27 hx hG ha kf_RX12_56 dX12_wins_180 ?_
        refine j_sipush hx dX12_wins_183 rfl ?_
        have f198 := zaQ (j := 486) hS_s23 (zr (k := 27) (t2 := 84) hG ha rfl) (congrArg some (axS_2 486 (by omega))) (zlen hG (zr (k := 27) (t2 := 84) hG ha rfl) (n := 515) rfl rfl) (show 0 ≤ 486 by omega) (by omega) rfl
        have c199 := zc_1 (j := 486) hS_s23 (zr (k := 27) (t2 := 84) hG ha rfl) (zn hG (zr (k := 27) (t2 := 84) hG ha rfl) rfl) (by omega) (by omega)
        have c200 : (x1 + 480).toNat ≠ 486 → s23 (gP G a 27) (x1 + 480).toNat + s23 (gP G a 27) 486 ≤ zc (s23 (gP G a 27)) := fun e => zc_2 hS_s23 (zr (k := 27) (t2 := 84) hG ha rfl) (zn hG (zr (k := 27) (t2 := 84) hG ha rfl) rfl) (by omega) (by omega) (by omega) (by omega) e
        refine j_iald hx hG (zr (k := 27) (t2 := 84) hG ha rfl) (by decide) rfl (zlen hG (zr (k := 27) (t2 := 84) hG ha rfl) (n := 515) rfl rfl) (by omega) (by omega) (j := 486) rfl rfl dX12_wins_186 ?_
        refine j_iadd hx (r := (s23 (gP G a 27) (x1 + 480).toNat) + (s23 (gP G a 27) 486)) dX12_wins_187 (by omega) ?_
        refine j_iast hx hG (zr (k := 27) (t2 := 84) hG ha rfl) (by decide) rfl (zlen hG (zr (k := 27) (t2 := 84) hG ha rfl) (n := 515) rfl rfl) (by omega) (by omega) (j := (x1 + 480).toNat) rfl dX12_wins_188 ?_
        obtain ⟨s24, e_s24⟩ : ∃ z, z = zU s23 (gP G a 27) (x1 + 480).toNat ((s23 (gP G a 27) (x1 + 480).toNat) + (s23 (gP G a 27) 486)) := ⟨_, rfl⟩
        rw [← e_s24]
        have hS_s24 : zSK G s24 := by rw [e_s24]; exact zSK_a hS_s23 (zr (k := 27) (t2 := 84) hG ha rfl) rfl rfl (congrArg some (axS_2 (x1 + 480).toNat (by omega))) (by omega)
        have g202 : s24 (gP G a 27) (x1 + 480).toNat = (s23 (gP G a 27) (x1 + 480).toNat) + (s23 (gP G a 27) 486) := (by rw [e_s24, zU_eq])
        have z201 : zc (s24 (gP G a 27)) = zc (s23 (gP G a 27)) - s23 (gP G a 27) (x1 + 480).toNat + s24 (gP G a 27) (x1 + 480).toNat := by rw [e_s24, zU_eq]; exact zc_w (by omega) (by omega)
        refine j_aload_n hx 2 dX12_wins_189 rfl ?_
        refine g13_27 hx hG ha kf_RX12_56 dX12_wins_190 ?_
        refine j_sipush hx dX12_wins_193 rfl ?_
        refine j_iconst hx dX12_wins_196 ?_
        refine j_iast hx hG (zr (k := 27) (t2 := 84) hG ha rfl) (by decide) rfl (zlen hG (zr (k := 27) (t2 := 84) hG ha rfl) (n := 515) rfl rfl) (by omega) (by omega) (j := 486) rfl dX12_wins_197 ?_
        obtain ⟨s25, e_s25⟩ : ∃ z, z = zU s24 (gP G a 27) 486 0 := ⟨_, rfl⟩
        rw [← e_s25]
        have hS_s25 : zSK G s25 := by rw [e_s25]; exact zSK_a hS_s24 (zr (k := 27) (t2 := 84) hG ha rfl) rfl rfl (congrArg some (axS_2 486 (by omega))) (by omega)
        have g204 : s24 (gP G a 27) 486 = s23 (gP G a 27) 486 := (by rw [e_s24, zU_at (Or.inr (by omega))])
        have g205 : s25 (gP G a 27) 486 = 0 := (by rw [e_s25, zU_eq])
        have z203 : zc (s25 (gP G a 27)) = zc (s24 (gP G a 27)) - s24 (gP G a 27) 486 + s25 (gP G a 27) 486 := by rw [e_s25, zU_eq]; exact zc_w (by omega) (by omega)
        refine j_iload hx 0 dX12_wins_198 rfl ?_
        have g206 : s25 (gP G a 27) 488 = s23 (gP G a 27) 488 := (by rw [e_s25, zU_at (Or.inr (by decide)), e_s24, zU_at (Or.inr (by omega))])
        exact j_iret hx hq rfl (by decide) (by decide) dX12_wins_200 ⟨v190, rfl, rfl, hS_s25, (zFr_u (zFr_u (zFr_t (zFr_t (zFr_t zFr_rf hF_s19 (by decide)) hF_s20 (by decide)) hF_s23 (by decide)) e_s24 (zr (k := 27) (t2 := 84) hG ha rfl) (by decide)) e_s25 (zr (k := 27) (t2 := 84) hG ha rfl) (by decide)), ⟨(by omega), by omega, by omega⟩⟩
      · skip
        refine j_iload hx 3 dX12_wins_131 rfl ?_
        exact j_iret hx hq rfl (by decide) (by decide) dX12_wins_133 ⟨v166, rfl, rfl, hS_s20, (zFr_t (zFr_t zFr_rf hF_s19 (by decide)) hF_s20 (by decide)), ⟨(by omega), by omega, by omega⟩⟩
    have c123_26 : JJ X E 6 G s20 0 0 [(0, .ref a), (1, .int (zI x1)), (4, .int (zI v166))] 123 [] := by
      refine j_iconst hx dX12_wins_123 ?_
      exact j_sub [0, 1, 2] [(0, .ref a), (1, .int (zI x1)), (4, .int (zI v166))] rfl (c124_21 0 (by omega))
    refine j_if_le hx 123 dX12_wins_64 rfl (by omega) (fun h207 => ?_) (fun h207 => ?_)
    · skip
      exact j_sub [2, 3, 0] [(0, .ref a), (1, .int (zI x1)), (4, .int (zI v166))] rfl (c123_26  )
    · skip
      refine j_aload_n hx 2 dX12_wins_67 rfl ?_
      refine g13_27 hx hG ha kf_RX12_56 dX12_wins_68 ?_
      refine j_sipush hx dX12_wins_71 rfl ?_
      have f208 := zaQ (j := 493) hS_s20 (zr (k := 27) (t2 := 84) hG ha rfl) (congrArg some (axS_7 493 (by omega))) (zlen hG (zr (k := 27) (t2 := 84) hG ha rfl) (n := 515) rfl rfl) (show 0 ≤ 493 by omega) (by omega) rfl
      refine j_iald hx hG (zr (k := 27) (t2 := 84) hG ha rfl) (by decide) rfl (zlen hG (zr (k := 27) (t2 := 84) hG ha rfl) (n := 515) rfl rfl) (by omega) (by omega) (j := 493) rfl rfl dX12_wins_74 ?_
      refine j_iconst hx dX12_wins_75 ?_
      have c119_27 : JJ X E 6 G s20 0 0 [(0, .ref a), (1, .int (zI x1)), (4, .int (zI v166))] 119 [] := by
        refine j_iconst hx dX12_wins_119 ?_
        refine j_goto hx 124 dX12_wins_120 rfl ?_
        exact j_sub [0, 1, 2] [(0, .ref a), (1, .int (zI x1)), (4, .int (zI v166))] rfl (c124_21 1 (by omega))
      refine j_icmp_eq hx 119 dX12_wins_76 rfl (by omega) ⟨by decide, by decide⟩ (fun h209 => ?_) (fun h209 => ?_)
      · skip
        exact j_sub [2, 3, 0] [(0, .ref a), (1, .int (zI x1)), (4, .int (zI v166))] rfl (c119_27  )
      · skip
        refine j_aload_n hx 2 dX12_wins_79 rfl ?_
        refine g13_27 hx hG ha kf_RX12_56 dX12_wins_80 ?_
        refine j_sipush hx dX12_wins_83 rfl ?_
        refine j_iald hx hG (zr (k := 27) (t2 := 84) hG ha rfl) (by decide) rfl (zlen hG (zr (k := 27) (t2 := 84) hG ha rfl) (n := 515) rfl rfl) (by omega) (by omega) (j := 493) rfl rfl dX12_wins_86 ?_
        refine j_iconst hx dX12_wins_87 ?_
        refine j_icmp_ne hx 123 dX12_wins_88 rfl (by omega) ⟨by decide, by decide⟩ (fun h210 => ?_) (fun h210 => ?_)
        · skip
          exact j_sub [2, 3, 0] [(0, .ref a), (1, .int (zI x1)), (4, .int (zI v166))] rfl (c123_26  )
        · skip
          refine j_aload_n hx 2 dX12_wins_91 rfl ?_
          refine g13_19 hx hG ha kf_RX12_50 dX12_wins_92 ?_
          refine j_aload_n hx 2 dX12_wins_95 rfl ?_
          refine g13_27 hx hG ha kf_RX12_56 dX12_wins_96 ?_
          refine j_sipush hx dX12_wins_99 rfl ?_
          refine j_aload_n hx 2 dX12_wins_102 rfl ?_
          refine g13_27 hx hG ha kf_RX12_56 dX12_wins_103 ?_
          refine j_sipush hx dX12_wins_106 rfl ?_
          refine j_iald hx hG (zr (k := 27) (t2 := 84) hG ha rfl) (by decide) rfl (zlen hG (zr (k := 27) (t2 := 84) hG ha rfl) (n := 515) rfl rfl) (by omega) (by omega) (j := 486) rfl rfl dX12_wins_109 ?_
          refine j_iadd hx (r := (s20 (gP G a 27) 486) + 360) dX12_wins_110 (by omega) ?_
          refine j_iconst hx dX12_wins_111 ?_
          refine j_isub hx (r := (s20 (gP G a 27) 486) + 359) dX12_wins_112 (by omega) ?_
          have f211 := zaQ (j := ((s20 (gP G a 27) 486) + 359).toNat) hS_s20 (zr (k := 27) (t2 := 84) hG ha rfl) (congrArg some (axS_0 ((s20 (gP G a 27) 486) + 359).toNat (by omega))) (zlen hG (zr (k := 27) (t2 := 84) hG ha rfl) (n := 515) rfl rfl) (show 0 ≤ (s20 (gP G a 27) 486) + 359 by omega) (by omega) rfl
          refine j_iald hx hG (zr (k := 27) (t2 := 84) hG ha rfl) (by decide) rfl (zlen hG (zr (k := 27) (t2 := 84) hG ha rfl) (n := 515) rfl rfl) (by omega) (by omega) (j := ((s20 (gP G a 27) 486) + 359).toNat) rfl rfl dX12_wins_113 ?_
          have f212 := zaI (j := ((s20 (gP G a 27) ((s20 (gP G a 27) 486) + 359).toNat)).toNat) hS0 (zr (k := 19) (t2 := 82) hG ha rfl) rfl (zlen hG (zr (k := 19) (t2 := 82) hG ha rfl) (n := 60) rfl rfl) (show 0 ≤ (s20 (gP G a 27) ((s20 (gP G a 27) 486) + 359).toNat) by omega) (by omega) rfl
          refine j_iald hx hG (zr (k := 19) (t2 := 82) hG ha rfl) (by decide) rfl (zlen hG (zr (k := 19) (t2 := 82) hG ha rfl) (n := 60) rfl rfl) (by omega) (by omega) (j := ((s20 (gP G a 27) ((s20 (gP G a 27) 486) + 359).toNat)).toNat) rfl (v := (s0 (gP G a 19) ((s20 (gP G a 27) ((s20 (gP G a 27) 486) + 359).toNat)).toNat)) (by rw [(zFr_g hF_s20 (zr (k := 19) (t2 := 82) hG ha rfl) (by decide)), (zFr_g hF_s19 (zr (k := 19) (t2 := 82) hG ha rfl) (by decide))]) dX12_wins_114 ?_
          refine j_iload_n hx 1 dX12_wins_115 rfl ?_
          refine j_icmp_ne hx 123 dX12_wins_116 rfl (by omega) (by omega) (fun h213 => ?_) (fun h213 => ?_)
          · skip
            exact j_sub [2, 3, 0] [(0, .ref a), (1, .int (zI x1)), (4, .int (zI v166))] rfl (c123_26  )
          · skip
            exact j_sub [2, 3, 0] [(0, .ref a), (1, .int (zI x1)), (4, .int (zI v166))] rfl (c119_27  )
