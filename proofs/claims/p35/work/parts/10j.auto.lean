theorem lk_RX12_417 : LkV RX12 417 RX12 yX12_puts cX12_puts 5 (some .int) 3 := ⟨km_RX12_417, ki_yX12_puts, ks_RX12_yX12_puts, kn_RX12, kc_yX12_puts, rfl, by decide +kernel, by decide +kernel, by decide +kernel⟩
set_option maxHeartbeats 1200000 in
set_option maxRecDepth 20000 in
theorem c_X12_writes {E : zE} {l : Launch} (hst : l.stackTraces = false) (a : Nat) (x1 : Int) : Con E l yX12_writes cX12_writes 5 none { frames := 4, cells := 0, slots := 0, locals := 84 } (fun G s vs => vs = [.ref a, .int (zI x1)] ∧ zGK G ∧ zSK G s ∧ (gT G a = 13) ∧ (0 ≤ x1 ∧ x1 ≤ 3000) ∧ (zc (s (gP G a 27)) ≤ 60)) (fun G s _ => pV (fun G2 s2 => G2 = G ∧ zSK G s2 ∧ zFr [101] G s s2 ∧ True)) := by
  refine Con.mk hst (by decide) (fun G s vs h => by rw [h.1]; exact Nat.le_of_ble_eq_true rfl) ?_
  rintro X G s0 vs ⟨rfl, hG, hS0, ha, hx1, e0⟩ rfl hx hq
  show JJ X E 5 G s0 0 0 [(0, .ref a), (1, .int (zI x1))] 0 []
  have f1 := zaQ (j := 480) hS0 (zr (k := 27) (t2 := 84) hG ha rfl) (congrArg some (axS_2 480 (by omega))) (zlen hG (zr (k := 27) (t2 := 84) hG ha rfl) (n := 515) rfl rfl) (show (0 : Int) ≤ 480 by decide) (by decide) rfl
  have f2 := zaQ (j := 481) hS0 (zr (k := 27) (t2 := 84) hG ha rfl) (congrArg some (axS_2 481 (by omega))) (zlen hG (zr (k := 27) (t2 := 84) hG ha rfl) (n := 515) rfl rfl) (show (0 : Int) ≤ 481 by decide) (by decide) rfl
  have f3 := zaQ (j := 482) hS0 (zr (k := 27) (t2 := 84) hG ha rfl) (congrArg some (axS_2 482 (by omega))) (zlen hG (zr (k := 27) (t2 := 84) hG ha rfl) (n := 515) rfl rfl) (show (0 : Int) ≤ 482 by decide) (by decide) rfl
  have f4 := zaQ (j := 483) hS0 (zr (k := 27) (t2 := 84) hG ha rfl) (congrArg some (axS_2 483 (by omega))) (zlen hG (zr (k := 27) (t2 := 84) hG ha rfl) (n := 515) rfl rfl) (show (0 : Int) ≤ 483 by decide) (by decide) rfl
  have f5 := zaQ (j := 484) hS0 (zr (k := 27) (t2 := 84) hG ha rfl) (congrArg some (axS_2 484 (by omega))) (zlen hG (zr (k := 27) (t2 := 84) hG ha rfl) (n := 515) rfl rfl) (show (0 : Int) ≤ 484 by decide) (by decide) rfl
  have f6 := zaQ (j := 485) hS0 (zr (k := 27) (t2 := 84) hG ha rfl) (congrArg some (axS_2 485 (by omega))) (zlen hG (zr (k := 27) (t2 := 84) hG ha rfl) (n := 515) rfl rfl) (show (0 : Int) ≤ 485 by decide) (by decide) rfl
  have f7 := zaQ (j := 486) hS0 (zr (k := 27) (t2 := 84) hG ha rfl) (congrArg some (axS_2 486 (by omega))) (zlen hG (zr (k := 27) (t2 := 84) hG ha rfl) (n := 515) rfl rfl) (show (0 : Int) ≤ 486 by decide) (by decide) rfl
  have f8 : zc (s0 (gP G a 27)) = s0 (gP G a 27) 480 + s0 (gP G a 27) 481 + s0 (gP G a 27) 482 + s0 (gP G a 27) 483 + s0 (gP G a 27) 484 + s0 (gP G a 27) 485 + s0 (gP G a 27) 486 := rfl
  refine j_bipush hx dX12_writes_0 rfl ?_
  refine j_iload_n hx 1 dX12_writes_2 rfl ?_
  refine j_imul hx (r := 70 * x1) dX12_writes_3 rfl ?_
  refine j_istore_n hx [(2, .int (zI (70 * x1))), (0, .ref a), (1, .int (zI x1))] dX12_writes_4 (by decide) rfl ?_
  refine j_iconst hx dX12_writes_5 ?_
  refine j_istore_n hx [(3, .int (zI 0)), (2, .int (zI (70 * x1))), (0, .ref a), (1, .int (zI x1))] dX12_writes_6 (by decide) rfl ?_
  have c7_1 : ∀ (m_c7_1 : Nat) (v9 : Int) (s2 : zS), 2147483648 - v9 < m_c7_1 → (0 ≤ v9 ∧ v9 ≤ 70) → (zSK G s2) → (zFr [101] G s0 s2) → JJ X E 5 G s2 0 0 [(0, .ref a), (2, .int (zI (70 * x1))), (3, .int (zI v9))] 7 [] := by
    intro m_c7_1
    induction m_c7_1 with
    | zero => intro v9 s2 hm_c7_1 fA3 hS_s2 hF_s2; exfalso; omega
    | succ m_c7_1 ih_c7_1 => 
      intro v9 s2 hm_c7_1 fA3 hS_s2 hF_s2
      refine j_iload_n hx 2 dX12_writes_7 rfl ?_
      refine j_bipush hx dX12_writes_8 rfl ?_
      refine j_icmp_ge hx 28 dX12_writes_10 rfl (by omega) ⟨by decide, by decide⟩ (fun h10 => ?_) (fun h10 => ?_)
      · skip
        refine j_iload_n hx 1 dX12_writes_28 rfl ?_
        refine j_istore_n hx [(3, .int (zI (70 * x1))), (0, .ref a), (2, .int (zI (70 * x1)))] dX12_writes_29 (by decide) rfl ?_
        refine j_iconst hx dX12_writes_30 ?_
        refine j_istore hx [(4, .int (zI 0)), (3, .int (zI (70 * x1))), (0, .ref a), (2, .int (zI (70 * x1)))] dX12_writes_31 (by decide) rfl ?_
        refine j_iload hx 0 dX12_writes_33 rfl ?_
        refine j_aload_n hx 2 dX12_writes_35 rfl ?_
        have f11 := zf hS0 ha (k := 24) rfl
        refine g13_24 hx hG ha kf_RX12_189 (v := (s0 a 24)) (by rw [(zFr_g hF_s2 ha (by decide))]) dX12_writes_36 ?_
        refine j_icmp_ge hx 136 dX12_writes_39 rfl ⟨by decide, by decide⟩ (by omega) (fun h12 => ?_) (fun h12 => ?_)
        · skip
          refine j_aload_n hx 2 dX12_writes_136 rfl ?_
          refine j_iload_n hx 1 dX12_writes_137 rfl ?_
          refine j_sipush hx dX12_writes_138 rfl ?_
          refine j_sipush hx dX12_writes_141 rfl ?_
          have g13 : s2 (gP G a 27) (Int.toNat 486) = s2 (gP G a 27) 486 := rfl
          have g14 : s2 (gP G a 27) 486 = s0 (gP G a 27) 486 := (by rw [(zFr_g hF_s2 (zr (k := 27) (t2 := 84) hG ha rfl) (by decide))])
          refine j_callV hx hG (c_X12_puts hst a (70 * x1) 360 486) lk_RX12_417 ha (by decide) rfl rfl rfl rfl [.int (zI (70 * x1)), .int (zI 360), .int (zI 486)] ⟨rfl, hG, hS_s2, ha, (by omega), (by omega), (by omega), (by omega)⟩ rfl rfl ⟨by decide, by decide⟩ ⟨by decide, by decide⟩ (k2 := 0) (n2 := 0) rfl rfl (Nat.le_of_ble_eq_true rfl) dX12_writes_144 (kIM (fun v15 s6 hS_s6 hF_s6 q16 => ?_))
          refine j_pop hx dX12_writes_147 rfl ?_
          refine j_aload_n hx 2 dX12_writes_148 rfl ?_
          refine g13_48 hx hG ha kf_RX12_109 dX12_writes_149 ?_
          refine j_iload_n hx 3 dX12_writes_152 rfl ?_
          refine j_bipush hx dX12_writes_153 rfl ?_
          refine j_iadd hx (r := 70 * x1 + 60) dX12_writes_155 (by omega) ?_
          refine j_bipush hx dX12_writes_156 rfl ?_
          refine j_iadd hx (r := 70 * x1 + 66) dX12_writes_158 (by omega) ?_
          refine j_aload_n hx 2 dX12_writes_159 rfl ?_
          refine g13_27 hx hG ha kf_RX12_56 dX12_writes_160 ?_
          refine j_sipush hx dX12_writes_163 rfl ?_
          have f17 := zaQ (j := 486) hS0 (zr (k := 27) (t2 := 84) hG ha rfl) (congrArg some (axS_2 486 (by omega))) (zlen hG (zr (k := 27) (t2 := 84) hG ha rfl) (n := 515) rfl rfl) (show 0 ≤ 486 by omega) (by omega) rfl
          have c18 := zc_1 (j := 486) hS0 (zr (k := 27) (t2 := 84) hG ha rfl) (zn hG (zr (k := 27) (t2 := 84) hG ha rfl) rfl) (by omega) (by omega)
          refine j_iald hx hG (zr (k := 27) (t2 := 84) hG ha rfl) (by decide) rfl (zlen hG (zr (k := 27) (t2 := 84) hG ha rfl) (n := 515) rfl rfl) (by omega) (by omega) (j := 486) rfl (v := (s0 (gP G a 27) 486)) (by rw [(zFr_g hF_s6 (zr (k := 27) (t2 := 84) hG ha rfl) (by decide)), (zFr_g hF_s2 (zr (k := 27) (t2 := 84) hG ha rfl) (by decide))]) dX12_writes_166 ?_
          refine j_iast hx hG (zr (k := 48) (t2 := 101) hG ha rfl) (by decide) rfl (zlen hG (zr (k := 48) (t2 := 101) hG ha rfl) (n := 210070) rfl rfl) (by omega) (by omega) (j := (70 * x1 + 66).toNat) rfl dX12_writes_167 ?_
          obtain ⟨s7, e_s7⟩ : ∃ z, z = zU s6 (gP G a 48) (70 * x1 + 66).toNat ((s0 (gP G a 27) 486)) := ⟨_, rfl⟩
          rw [← e_s7]
          have hS_s7 : zSK G s7 := by rw [e_s7]; exact zSK_A hS_s6 (zr (k := 48) (t2 := 101) hG ha rfl) rfl rfl rfl (by omega)
          refine j_aload_n hx 2 dX12_writes_168 rfl ?_
          refine g13_48 hx hG ha kf_RX12_109 dX12_writes_169 ?_
          refine j_iload_n hx 3 dX12_writes_172 rfl ?_
          refine j_bipush hx dX12_writes_173 rfl ?_
          refine j_iadd hx (r := 70 * x1 + 60) dX12_writes_175 (by omega) ?_
          refine j_bipush hx dX12_writes_176 rfl ?_
          refine j_iadd hx (r := 70 * x1 + 67) dX12_writes_178 (by omega) ?_
          refine j_aload_n hx 2 dX12_writes_179 rfl ?_
          refine j_callV hx hG (c_X12_whose hst a) lk_RX12_336 ha (by decide) rfl rfl rfl rfl [] ⟨rfl, hG, hS_s7, ha⟩ rfl rfl ⟨by decide, by decide⟩ ⟨by decide, by decide⟩ (k2 := 0) (n2 := 0) rfl rfl (Nat.le_of_ble_eq_true rfl) dX12_writes_180 (kIP (fun v19 q20 => ?_))
          refine j_iast hx hG (zr (k := 48) (t2 := 101) hG ha rfl) (by decide) rfl (zlen hG (zr (k := 48) (t2 := 101) hG ha rfl) (n := 210070) rfl rfl) (by omega) (by omega) (j := (70 * x1 + 67).toNat) rfl dX12_writes_183 ?_
          obtain ⟨s8, e_s8⟩ : ∃ z, z = zU s7 (gP G a 48) (70 * x1 + 67).toNat v19 := ⟨_, rfl⟩
          rw [← e_s8]
          have hS_s8 : zSK G s8 := by rw [e_s8]; exact zSK_A hS_s7 (zr (k := 48) (t2 := 101) hG ha rfl) rfl rfl rfl (by omega)
          refine j_aload_n hx 2 dX12_writes_184 rfl ?_
          refine g13_48 hx hG ha kf_RX12_109 dX12_writes_185 ?_
          refine j_iload_n hx 3 dX12_writes_188 rfl ?_
          refine j_bipush hx dX12_writes_189 rfl ?_
          refine j_iadd hx (r := 70 * x1 + 60) dX12_writes_191 (by omega) ?_
          refine j_bipush hx dX12_writes_192 rfl ?_
          refine j_iadd hx (r := 70 * x1 + 68) dX12_writes_194 (by omega) ?_
          refine j_aload_n hx 2 dX12_writes_195 rfl ?_
          refine g13_27 hx hG ha kf_RX12_56 dX12_writes_196 ?_
          refine j_sipush hx dX12_writes_199 rfl ?_
          have f21 := zaQ (j := 490) hS0 (zr (k := 27) (t2 := 84) hG ha rfl) (congrArg some (axS_6 490 (by omega))) (zlen hG (zr (k := 27) (t2 := 84) hG ha rfl) (n := 515) rfl rfl) (show 0 ≤ 490 by omega) (by omega) rfl
          refine j_iald hx hG (zr (k := 27) (t2 := 84) hG ha rfl) (by decide) rfl (zlen hG (zr (k := 27) (t2 := 84) hG ha rfl) (n := 515) rfl rfl) (by omega) (by omega) (j := 490) rfl (v := (s0 (gP G a 27) 490)) (by rw [e_s8, zU_at (Or.inl (zne (zr (k := 48) (t2 := 101) hG ha rfl) (zr (k := 27) (t2 := 84) hG ha rfl) (by decide))), e_s7, zU_at (Or.inl (zne (zr (k := 48) (t2 := 101) hG ha rfl) (zr (k := 27) (t2 := 84) hG ha rfl) (by decide))), (zFr_g hF_s6 (zr (k := 27) (t2 := 84) hG ha rfl) (by decide)), (zFr_g hF_s2 (zr (k := 27) (t2 := 84) hG ha rfl) (by decide))]) dX12_writes_202 ?_
          refine j_iconst hx dX12_writes_203 ?_
          have c219_9 : ∀ (v22 : Int), ((-2147483648) ≤ v22 ∧ v22 ≤ 2147483647) → JJ X E 5 G s8 0 0 [(0, .ref a), (2, .int (zI (70 * x1)))] 219 [.int (zI v22), .int (zI (70 * x1 + 68)), .ref (gP G a 48)] := by
            intro v22 fA10
            refine j_iast hx hG (zr (k := 48) (t2 := 101) hG ha rfl) (by decide) rfl (zlen hG (zr (k := 48) (t2 := 101) hG ha rfl) (n := 210070) rfl rfl) (by omega) (by omega) (j := (70 * x1 + 68).toNat) rfl dX12_writes_219 ?_
            obtain ⟨s11, e_s11⟩ : ∃ z, z = zU s8 (gP G a 48) (70 * x1 + 68).toNat v22 := ⟨_, rfl⟩
            rw [← e_s11]
            have hS_s11 : zSK G s11 := by rw [e_s11]; exact zSK_A hS_s8 (zr (k := 48) (t2 := 101) hG ha rfl) rfl rfl rfl (by omega)
            refine j_aload_n hx 0 dX12_writes_220 rfl ?_
            refine g13_48 hx hG ha kf_RX12_109 dX12_writes_221 ?_
            refine j_iload_n hx 1 dX12_writes_224 rfl ?_
            refine j_bipush hx dX12_writes_225 rfl ?_
            refine j_iadd hx (r := 70 * x1 + 60) dX12_writes_227 (by omega) ?_
            refine j_bipush hx dX12_writes_228 rfl ?_
            refine j_iadd hx (r := 70 * x1 + 69) dX12_writes_230 (by omega) ?_
            refine j_aload_n hx 0 dX12_writes_231 rfl ?_
            refine g13_27 hx hG ha kf_RX12_56 dX12_writes_232 ?_
            refine j_sipush hx dX12_writes_235 rfl ?_
            have f23 := zaQ (j := 488) hS0 (zr (k := 27) (t2 := 84) hG ha rfl) (congrArg some (axS_4 488 (by omega))) (zlen hG (zr (k := 27) (t2 := 84) hG ha rfl) (n := 515) rfl rfl) (show 0 ≤ 488 by omega) (by omega) rfl
            refine j_iald hx hG (zr (k := 27) (t2 := 84) hG ha rfl) (by decide) rfl (zlen hG (zr (k := 27) (t2 := 84) hG ha rfl) (n := 515) rfl rfl) (by omega) (by omega) (j := 488) rfl (v := (s0 (gP G a 27) 488)) (by rw [e_s11, zU_at (Or.inl (zne (zr (k := 48) (t2 := 101) hG ha rfl) (zr (k := 27) (t2 := 84) hG ha rfl) (by decide))), e_s8, zU_at (Or.inl (zne (zr (k := 48) (t2 := 101) hG ha rfl) (zr (k := 27) (t2 := 84) hG ha rfl) (by decide))), e_s7, zU_at (Or.inl (zne (zr (k := 48) (t2 := 101) hG ha rfl) (zr (k := 27) (t2 := 84) hG ha rfl) (by decide))), (zFr_g hF_s6 (zr (k := 27) (t2 := 84) hG ha rfl) (by decide)), (zFr_g hF_s2 (zr (k := 27) (t2 := 84) hG ha rfl) (by decide))]) dX12_writes_238 ?_
            refine j_iast hx hG (zr (k := 48) (t2 := 101) hG ha rfl) (by decide) rfl (zlen hG (zr (k := 48) (t2 := 101) hG ha rfl) (n := 210070) rfl rfl) (by omega) (by omega) (j := (70 * x1 + 69).toNat) rfl dX12_writes_239 ?_
            obtain ⟨s12, e_s12⟩ : ∃ z, z = zU s11 (gP G a 48) (70 * x1 + 69).toNat ((s0 (gP G a 27) 488)) := ⟨_, rfl⟩
            rw [← e_s12]
            have hS_s12 : zSK G s12 := by rw [e_s12]; exact zSK_A hS_s11 (zr (k := 48) (t2 := 101) hG ha rfl) rfl rfl rfl (by omega)
            exact j_vret hx hq rfl (by decide) (by decide) dX12_writes_240 ⟨rfl, rfl, hS_s12, (zFr_u (zFr_u (zFr_u (zFr_u (zFr_t (zFr_t zFr_rf hF_s2 (by decide)) hF_s6 (by decide)) e_s7 (zr (k := 48) (t2 := 101) hG ha rfl) (by decide)) e_s8 (zr (k := 48) (t2 := 101) hG ha rfl) (by decide)) e_s11 (zr (k := 48) (t2 := 101) hG ha rfl) (by decide)) e_s12 (zr (k := 48) (t2 := 101) hG ha rfl) (by decide)), trivial⟩
          refine j_icmp_ne hx 218 dX12_writes_204 rfl (by omega) ⟨by decide, by decide⟩ (fun h24 => ?_) (fun h24 => ?_)
          · skip
            refine j_iconst hx dX12_writes_218 ?_
            exact j_sub [2, 3] [(0, .ref a), (2, .int (zI (70 * x1)))] rfl (c219_9 0 (by omega))
          · skip
            refine j_aload_n hx 2 dX12_writes_207 rfl ?_
            refine g13_27 hx hG ha kf_RX12_56 dX12_writes_208 ?_
            refine j_sipush hx dX12_writes_211 rfl ?_
            have f25 := zaQ (j := 489) hS0 (zr (k := 27) (t2 := 84) hG ha rfl) (congrArg some (axS_5 489 (by omega))) (zlen hG (zr (k := 27) (t2 := 84) hG ha rfl) (n := 515) rfl rfl) (show 0 ≤ 489 by omega) (by omega) rfl
            refine j_iald hx hG (zr (k := 27) (t2 := 84) hG ha rfl) (by decide) rfl (zlen hG (zr (k := 27) (t2 := 84) hG ha rfl) (n := 515) rfl rfl) (by omega) (by omega) (j := 489) rfl (v := (s0 (gP G a 27) 489)) (by rw [e_s8, zU_at (Or.inl (zne (zr (k := 48) (t2 := 101) hG ha rfl) (zr (k := 27) (t2 := 84) hG ha rfl) (by decide))), e_s7, zU_at (Or.inl (zne (zr (k := 48) (t2 := 101) hG ha rfl) (zr (k := 27) (t2 := 84) hG ha rfl) (by decide))), (zFr_g hF_s6 (zr (k := 27) (t2 := 84) hG ha rfl) (by decide)), (zFr_g hF_s2 (zr (k := 27) (t2 := 84) hG ha rfl) (by decide))]) dX12_writes_214 ?_
            refine j_goto hx 219 dX12_writes_215 rfl ?_
            exact j_sub [2, 3] [(0, .ref a), (2, .int (zI (70 * x1)))] rfl (c219_9 ((s0 (gP G a 27) 489)) (by omega))
        · skip
          refine j_aload_n hx 2 dX12_writes_42 rfl ?_
          refine j_iload_n hx 1 dX12_writes_43 rfl ?_
          refine j_iconst hx dX12_writes_44 ?_
          refine j_bipush hx dX12_writes_45 rfl ?_
          refine j_iload hx 0 dX12_writes_47 rfl ?_
          refine j_imul hx (r := 0) dX12_writes_49 (by omega) ?_
          refine j_iadd hx (r := 0) dX12_writes_50 (by omega) ?_
          refine j_sipush hx dX12_writes_51 rfl ?_
          refine j_iload hx 0 dX12_writes_54 rfl ?_
          refine j_iadd hx (r := 480) dX12_writes_56 (by omega) ?_
          have g26 : s2 (gP G a 27) (Int.toNat 480) = s2 (gP G a 27) 480 := rfl
          have g27 : s2 (gP G a 27) 480 = s0 (gP G a 27) 480 := (by rw [(zFr_g hF_s2 (zr (k := 27) (t2 := 84) hG ha rfl) (by decide))])
          refine j_callV hx hG (c_X12_puts hst a (70 * x1) 0 480) lk_RX12_417 ha (by decide) rfl rfl rfl rfl [.int (zI (70 * x1)), .int (zI 0), .int (zI 480)] ⟨rfl, hG, hS_s2, ha, (by omega), (by omega), (by omega), (by omega)⟩ rfl rfl ⟨by decide, by decide⟩ ⟨by decide, by decide⟩ (k2 := 0) (n2 := 0) rfl rfl (Nat.le_of_ble_eq_true rfl) dX12_writes_57 (kIM (fun v28 s13 hS_s13 hF_s13 q29 => ?_))
          refine j_istore_n hx [(3, .int (zI v28)), (4, .int (zI 0)), (0, .ref a), (2, .int (zI (70 * x1)))] dX12_writes_60 (by decide) rfl ?_
          refine j_aload_n hx 2 dX12_writes_61 rfl ?_
          refine j_iload_n hx 0 dX12_writes_62 rfl ?_
          refine j_sipush hx dX12_writes_63 rfl ?_
          refine j_bipush hx dX12_writes_66 rfl ?_
          refine j_iload hx 1 dX12_writes_68 rfl ?_
          refine j_imul hx (r := 0) dX12_writes_70 (by omega) ?_
          refine j_iadd hx (r := 180) dX12_writes_71 (by omega) ?_
          refine j_sipush hx dX12_writes_72 rfl ?_
          refine j_iload hx 1 dX12_writes_75 rfl ?_
          refine j_iadd hx (r := 483) dX12_writes_77 (by omega) ?_
          have g30 : s13 (gP G a 27) (Int.toNat 483) = s13 (gP G a 27) 483 := rfl
          have g31 : s13 (gP G a 27) 483 = s0 (gP G a 27) 483 := (by rw [(zFr_g hF_s13 (zr (k := 27) (t2 := 84) hG ha rfl) (by decide)), (zFr_g hF_s2 (zr (k := 27) (t2 := 84) hG ha rfl) (by decide))])
          refine j_callV hx hG (c_X12_puts hst a v28 180 483) lk_RX12_417 ha (by decide) rfl rfl rfl rfl [.int (zI v28), .int (zI 180), .int (zI 483)] ⟨rfl, hG, hS_s13, ha, (by omega), (by omega), (by omega), (by omega)⟩ rfl rfl ⟨by decide, by decide⟩ ⟨by decide, by decide⟩ (k2 := 0) (n2 := 0) rfl rfl (Nat.le_of_ble_eq_true rfl) dX12_writes_78 (kIM (fun v32 s14 hS_s14 hF_s14 q33 => ?_))
          refine j_istore_n hx [(3, .int (zI v32)), (4, .int (zI 0)), (0, .ref a), (2, .int (zI (70 * x1)))] dX12_writes_81 (by decide) rfl ?_
          refine j_aload_n hx 2 dX12_writes_82 rfl ?_
          refine g13_48 hx hG ha kf_RX12_109 dX12_writes_83 ?_
          refine j_iload_n hx 3 dX12_writes_86 rfl ?_
          refine j_bipush hx dX12_writes_87 rfl ?_
          refine j_iadd hx (r := 70 * x1 + 60) dX12_writes_89 (by omega) ?_
          refine j_iload hx 1 dX12_writes_90 rfl ?_
          refine j_iadd hx (r := 70 * x1 + 60) dX12_writes_92 (by omega) ?_
          refine j_aload_n hx 2 dX12_writes_93 rfl ?_
          refine g13_27 hx hG ha kf_RX12_56 dX12_writes_94 ?_
          refine j_sipush hx dX12_writes_97 rfl ?_
          refine j_iload hx 1 dX12_writes_100 rfl ?_
          refine j_iadd hx (r := 480) dX12_writes_102 (by omega) ?_
          have f34 := zaQ (j := 480) hS0 (zr (k := 27) (t2 := 84) hG ha rfl) (congrArg some (axS_2 480 (by omega))) (zlen hG (zr (k := 27) (t2 := 84) hG ha rfl) (n := 515) rfl rfl) (show 0 ≤ 480 by omega) (by omega) rfl
          have c35 := zc_1 (j := 480) hS0 (zr (k := 27) (t2 := 84) hG ha rfl) (zn hG (zr (k := 27) (t2 := 84) hG ha rfl) rfl) (by omega) (by omega)
          refine j_iald hx hG (zr (k := 27) (t2 := 84) hG ha rfl) (by decide) rfl (zlen hG (zr (k := 27) (t2 := 84) hG ha rfl) (n := 515) rfl rfl) (by omega) (by omega) (j := 480) rfl (v := (s0 (gP G a 27) 480)) (by rw [(zFr_g hF_s14 (zr (k := 27) (t2 := 84) hG ha rfl) (by decide)), (zFr_g hF_s13 (zr (k := 27) (t2 := 84) hG ha rfl) (by decide)), (zFr_g hF_s2 (zr (k := 27) (t2 := 84) hG ha rfl) (by decide))]) dX12_writes_103 ?_
          refine j_iast hx hG (zr (k := 48) (t2 := 101) hG ha rfl) (by decide) rfl (zlen hG (zr (k := 48) (t2 := 101) hG ha rfl) (n := 210070) rfl rfl) (by omega) (by omega) (j := (70 * x1 + 60).toNat) rfl dX12_writes_104 ?_
          obtain ⟨s15, e_s15⟩ : ∃ z, z = zU s14 (gP G a 48) (70 * x1 + 60).toNat ((s0 (gP G a 27) 480)) := ⟨_, rfl⟩
          rw [← e_s15]
          have hS_s15 : zSK G s15 := by rw [e_s15]; exact zSK_A hS_s14 (zr (k := 48) (t2 := 101) hG ha rfl) rfl rfl rfl (by omega)
          refine j_aload_n hx 2 dX12_writes_105 rfl ?_
          refine g13_48 hx hG ha kf_RX12_109 dX12_writes_106 ?_
          refine j_iload_n hx 3 dX12_writes_109 rfl ?_
          refine j_bipush hx dX12_writes_110 rfl ?_
          refine j_iadd hx (r := 70 * x1 + 60) dX12_writes_112 (by omega) ?_
          refine j_iconst hx dX12_writes_113 ?_
          refine j_iadd hx (r := 70 * x1 + 63) dX12_writes_114 (by omega) ?_
          refine j_iload hx 1 dX12_writes_115 rfl ?_
          refine j_iadd hx (r := 70 * x1 + 63) dX12_writes_117 (by omega) ?_
          refine j_aload_n hx 2 dX12_writes_118 rfl ?_
          refine g13_27 hx hG ha kf_RX12_56 dX12_writes_119 ?_
          refine j_sipush hx dX12_writes_122 rfl ?_
          refine j_iload hx 1 dX12_writes_125 rfl ?_
          refine j_iadd hx (r := 483) dX12_writes_127 (by omega) ?_
          have f36 := zaQ (j := 483) hS0 (zr (k := 27) (t2 := 84) hG ha rfl) (congrArg some (axS_2 483 (by omega))) (zlen hG (zr (k := 27) (t2 := 84) hG ha rfl) (n := 515) rfl rfl) (show 0 ≤ 483 by omega) (by omega) rfl
          have c37 := zc_1 (j := 483) hS0 (zr (k := 27) (t2 := 84) hG ha rfl) (zn hG (zr (k := 27) (t2 := 84) hG ha rfl) rfl) (by omega) (by omega)
          have c38 : 480 ≠ 483 → s0 (gP G a 27) 480 + s0 (gP G a 27) 483 ≤ zc (s0 (gP G a 27)) := fun e => zc_2 hS0 (zr (k := 27) (t2 := 84) hG ha rfl) (zn hG (zr (k := 27) (t2 := 84) hG ha rfl) rfl) (by omega) (by omega) (by omega) (by omega) e
          refine j_iald hx hG (zr (k := 27) (t2 := 84) hG ha rfl) (by decide) rfl (zlen hG (zr (k := 27) (t2 := 84) hG ha rfl) (n := 515) rfl rfl) (by omega) (by omega) (j := 483) rfl (v := (s0 (gP G a 27) 483)) (by rw [e_s15, zU_at (Or.inl (zne (zr (k := 48) (t2 := 101) hG ha rfl) (zr (k := 27) (t2 := 84) hG ha rfl) (by decide))), (zFr_g hF_s14 (zr (k := 27) (t2 := 84) hG ha rfl) (by decide)), (zFr_g hF_s13 (zr (k := 27) (t2 := 84) hG ha rfl) (by decide)), (zFr_g hF_s2 (zr (k := 27) (t2 := 84) hG ha rfl) (by decide))]) dX12_writes_128 ?_
          refine j_iast hx hG (zr (k := 48) (t2 := 101) hG ha rfl) (by decide) rfl (zlen hG (zr (k := 48) (t2 := 101) hG ha rfl) (n := 210070) rfl rfl) (by omega) (by omega) (j := (70 * x1 + 63).toNat) rfl dX12_writes_129 ?_
          obtain ⟨s16, e_s16⟩ : ∃ z, z = zU s15 (gP G a 48) (70 * x1 + 63).toNat ((s0 (gP G a 27) 483)) := ⟨_, rfl⟩
          rw [← e_s16]
          have hS_s16 : zSK G s16 := by rw [e_s16]; exact zSK_A hS_s15 (zr (k := 48) (t2 := 101) hG ha rfl) rfl rfl rfl (by omega)
          refine j_iinc hx 1 [(4, .int (zI 1)), (3, .int (zI v32)), (0, .ref a), (2, .int (zI (70 * x1)))] dX12_writes_130 rfl (by omega) (by decide) rfl ?_
          refine j_goto hx 33 dX12_writes_133 rfl ?_
          refine j_iload hx 0 dX12_writes_33 rfl ?_
          refine j_aload_n hx 2 dX12_writes_35 rfl ?_
          refine g13_24 hx hG ha kf_RX12_189 (v := (s0 a 24)) (by rw [e_s16, zU_at (Or.inl (zne (zr (k := 48) (t2 := 101) hG ha rfl) ha (by decide))), e_s15, zU_at (Or.inl (zne (zr (k := 48) (t2 := 101) hG ha rfl) ha (by decide))), (zFr_g hF_s14 ha (by decide)), (zFr_g hF_s13 ha (by decide)), (zFr_g hF_s2 ha (by decide))]) dX12_writes_36 ?_
          refine j_icmp_ge hx 136 dX12_writes_39 rfl ⟨by decide, by decide⟩ (by omega) (fun h39 => ?_) (fun h39 => ?_)
          · skip
            refine j_aload_n hx 2 dX12_writes_136 rfl ?_
            refine j_iload_n hx 1 dX12_writes_137 rfl ?_
            refine j_sipush hx dX12_writes_138 rfl ?_
            refine j_sipush hx dX12_writes_141 rfl ?_
            have g40 : s16 (gP G a 27) (Int.toNat 486) = s16 (gP G a 27) 486 := rfl
            have g41 : s16 (gP G a 27) 486 = s0 (gP G a 27) 486 := (by rw [e_s16, zU_at (Or.inl (zne (zr (k := 48) (t2 := 101) hG ha rfl) (zr (k := 27) (t2 := 84) hG ha rfl) (by decide))), e_s15, zU_at (Or.inl (zne (zr (k := 48) (t2 := 101) hG ha rfl) (zr (k := 27) (t2 := 84) hG ha rfl) (by decide))), (zFr_g hF_s14 (zr (k := 27) (t2 := 84) hG ha rfl) (by decide)), (zFr_g hF_s13 (zr (k := 27) (t2 := 84) hG ha rfl) (by decide)), (zFr_g hF_s2 (zr (k := 27) (t2 := 84) hG ha rfl) (by decide))])
            refine j_callV hx hG (c_X12_puts hst a v32 360 486) lk_RX12_417 ha (by decide) rfl rfl rfl rfl [.int (zI v32), .int (zI 360), .int (zI 486)] ⟨rfl, hG, hS_s16, ha, (by omega), (by omega), (by omega), (by omega)⟩ rfl rfl ⟨by decide, by decide⟩ ⟨by decide, by decide⟩ (k2 := 0) (n2 := 0) rfl rfl (Nat.le_of_ble_eq_true rfl) dX12_writes_144 (kIM (fun v42 s17 hS_s17 hF_s17 q43 => ?_))
            refine j_pop hx dX12_writes_147 rfl ?_
            refine j_aload_n hx 2 dX12_writes_148 rfl ?_
            refine g13_48 hx hG ha kf_RX12_109 dX12_writes_149 ?_
            refine j_iload_n hx 3 dX12_writes_152 rfl ?_
            refine j_bipush hx dX12_writes_153 rfl ?_
            refine j_iadd hx (r := 70 * x1 + 60) dX12_writes_155 (by omega) ?_
            refine j_bipush hx dX12_writes_156 rfl ?_
            refine j_iadd hx (r := 70 * x1 + 66) dX12_writes_158 (by omega) ?_
            refine j_aload_n hx 2 dX12_writes_159 rfl ?_
            refine g13_27 hx hG ha kf_RX12_56 dX12_writes_160 ?_
            refine j_sipush hx dX12_writes_163 rfl ?_
            have f44 := zaQ (j := 486) hS0 (zr (k := 27) (t2 := 84) hG ha rfl) (congrArg some (axS_2 486 (by omega))) (zlen hG (zr (k := 27) (t2 := 84) hG ha rfl) (n := 515) rfl rfl) (show 0 ≤ 486 by omega) (by omega) rfl
            have c45 := zc_1 (j := 486) hS0 (zr (k := 27) (t2 := 84) hG ha rfl) (zn hG (zr (k := 27) (t2 := 84) hG ha rfl) rfl) (by omega) (by omega)
            have c46 : 480 ≠ 486 → s0 (gP G a 27) 480 + s0 (gP G a 27) 486 ≤ zc (s0 (gP G a 27)) := fun e => zc_2 hS0 (zr (k := 27) (t2 := 84) hG ha rfl) (zn hG (zr (k := 27) (t2 := 84) hG ha rfl) rfl) (by omega) (by omega) (by omega) (by omega) e
            have c47 : 483 ≠ 486 → s0 (gP G a 27) 483 + s0 (gP G a 27) 486 ≤ zc (s0 (gP G a 27)) := fun e => zc_2 hS0 (zr (k := 27) (t2 := 84) hG ha rfl) (zn hG (zr (k := 27) (t2 := 84) hG ha rfl) rfl) (by omega) (by omega) (by omega) (by omega) e
            refine j_iald hx hG (zr (k := 27) (t2 := 84) hG ha rfl) (by decide) rfl (zlen hG (zr (k := 27) (t2 := 84) hG ha rfl) (n := 515) rfl rfl) (by omega) (by omega) (j := 486) rfl (v := (s0 (gP G a 27) 486)) (by rw [(zFr_g hF_s17 (zr (k := 27) (t2 := 84) hG ha rfl) (by decide)), e_s16, zU_at (Or.inl (zne (zr (k := 48) (t2 := 101) hG ha rfl) (zr (k := 27) (t2 := 84) hG ha rfl) (by decide))), e_s15, zU_at (Or.inl (zne (zr (k := 48) (t2 := 101) hG ha rfl) (zr (k := 27) (t2 := 84) hG ha rfl) (by decide))), (zFr_g hF_s14 (zr (k := 27) (t2 := 84) hG ha rfl) (by decide)), (zFr_g hF_s13 (zr (k := 27) (t2 := 84) hG ha rfl) (by decide)), (zFr_g hF_s2 (zr (k := 27) (t2 := 84) hG ha rfl) (by decide))]) dX12_writes_166 ?_
            refine j_iast hx hG (zr (k := 48) (t2 := 101) hG ha rfl) (by decide) rfl (zlen hG (zr (k := 48) (t2 := 101) hG ha rfl) (n := 210070) rfl rfl) (by omega) (by omega) (j := (70 * x1 + 66).toNat) rfl dX12_writes_167 ?_
            obtain ⟨s18, e_s18⟩ : ∃ z, z = zU s17 (gP G a 48) (70 * x1 + 66).toNat ((s0 (gP G a 27) 486)) := ⟨_, rfl⟩
            rw [← e_s18]
            have hS_s18 : zSK G s18 := by rw [e_s18]; exact zSK_A hS_s17 (zr (k := 48) (t2 := 101) hG ha rfl) rfl rfl rfl (by omega)
            refine j_aload_n hx 2 dX12_writes_168 rfl ?_
            refine g13_48 hx hG ha kf_RX12_109 dX12_writes_169 ?_
            refine j_iload_n hx 3 dX12_writes_172 rfl ?_
            refine j_bipush hx dX12_writes_173 rfl ?_
            refine j_iadd hx (r := 70 * x1 + 60) dX12_writes_175 (by omega) ?_
            refine j_bipush hx dX12_writes_176 rfl ?_
            refine j_iadd hx (r := 70 * x1 + 67) dX12_writes_178 (by omega) ?_
            refine j_aload_n hx 2 dX12_writes_179 rfl ?_
            refine j_callV hx hG (c_X12_whose hst a) lk_RX12_336 ha (by decide) rfl rfl rfl rfl [] ⟨rfl, hG, hS_s18, ha⟩ rfl rfl ⟨by decide, by decide⟩ ⟨by decide, by decide⟩ (k2 := 0) (n2 := 0) rfl rfl (Nat.le_of_ble_eq_true rfl) dX12_writes_180 (kIP (fun v48 q49 => ?_))
            refine j_iast hx hG (zr (k := 48) (t2 := 101) hG ha rfl) (by decide) rfl (zlen hG (zr (k := 48) (t2 := 101) hG ha rfl) (n := 210070) rfl rfl) (by omega) (by omega) (j := (70 * x1 + 67).toNat) rfl dX12_writes_183 ?_
            obtain ⟨s19, e_s19⟩ : ∃ z, z = zU s18 (gP G a 48) (70 * x1 + 67).toNat v48 := ⟨_, rfl⟩
            rw [← e_s19]
            have hS_s19 : zSK G s19 := by rw [e_s19]; exact zSK_A hS_s18 (zr (k := 48) (t2 := 101) hG ha rfl) rfl rfl rfl (by omega)
            refine j_aload_n hx 2 dX12_writes_184 rfl ?_
            refine g13_48 hx hG ha kf_RX12_109 dX12_writes_185 ?_
            refine j_iload_n hx 3 dX12_writes_188 rfl ?_
            refine j_bipush hx dX12_writes_189 rfl ?_
            refine j_iadd hx (r := 70 * x1 + 60) dX12_writes_191 (by omega) ?_
            refine j_bipush hx dX12_writes_192 rfl ?_
            refine j_iadd hx (r := 70 * x1 + 68) dX12_writes_194 (by omega) ?_
            refine j_aload_n hx 2 dX12_writes_195 rfl ?_
            refine g13_27 hx hG ha kf_RX12_56 dX12_writes_196 ?_
            refine j_sipush hx dX12_writes_199 rfl ?_
            have f50 := zaQ (j := 490) hS0 (zr (k := 27) (t2 := 84) hG ha rfl) (congrArg some (axS_6 490 (by omega))) (zlen hG (zr (k := 27) (t2 := 84) hG ha rfl) (n := 515) rfl rfl) (show 0 ≤ 490 by omega) (by omega) rfl
            refine j_iald hx hG (zr (k := 27) (t2 := 84) hG ha rfl) (by decide) rfl (zlen hG (zr (k := 27) (t2 := 84) hG ha rfl) (n := 515) rfl rfl) (by omega) (by omega) (j := 490) rfl (v := (s0 (gP G a 27) 490)) (by rw [e_s19, zU_at (Or.inl (zne (zr (k := 48) (t2 := 101) hG ha rfl) (zr (k := 27) (t2 := 84) hG ha rfl) (by decide))), e_s18, zU_at (Or.inl (zne (zr (k := 48) (t2 := 101) hG ha rfl) (zr (k := 27) (t2 := 84) hG ha rfl) (by decide))), (zFr_g hF_s17 (zr (k := 27) (t2 := 84) hG ha rfl) (by decide)), e_s16, zU_at (Or.inl (zne (zr (k := 48) (t2 := 101) hG ha rfl) (zr (k := 27) (t2 := 84) hG ha rfl) (by decide))), e_s15, zU_at (Or.inl (zne (zr (k := 48) (t2 := 101) hG ha rfl) (zr (k := 27) (t2 := 84) hG ha rfl) (by decide))), (zFr_g hF_s14 (zr (k := 27) (t2 := 84) hG ha rfl) (by decide)), (zFr_g hF_s13 (zr (k := 27) (t2 := 84) hG ha rfl) (by decide)), (zFr_g hF_s2 (zr (k := 27) (t2 := 84) hG ha rfl) (by decide))]) dX12_writes_202 ?_
            refine j_iconst hx dX12_writes_203 ?_
            have c219_20 : ∀ (v51 : Int), ((-2147483648) ≤ v51 ∧ v51 ≤ 2147483647) → JJ X E 5 G s19 0 0 [(0, .ref a), (2, .int (zI (70 * x1)))] 219 [.int (zI v51), .int (zI (70 * x1 + 68)), .ref (gP G a 48)] := by
              intro v51 fA21
              refine j_iast hx hG (zr (k := 48) (t2 := 101) hG ha rfl) (by decide) rfl (zlen hG (zr (k := 48) (t2 := 101) hG ha rfl) (n := 210070) rfl rfl) (by omega) (by omega) (j := (70 * x1 + 68).toNat) rfl dX12_writes_219 ?_
              obtain ⟨s22, e_s22⟩ : ∃ z, z = zU s19 (gP G a 48) (70 * x1 + 68).toNat v51 := ⟨_, rfl⟩
              rw [← e_s22]
              have hS_s22 : zSK G s22 := by rw [e_s22]; exact zSK_A hS_s19 (zr (k := 48) (t2 := 101) hG ha rfl) rfl rfl rfl (by omega)
              refine j_aload_n hx 0 dX12_writes_220 rfl ?_
              refine g13_48 hx hG ha kf_RX12_109 dX12_writes_221 ?_
              refine j_iload_n hx 1 dX12_writes_224 rfl ?_
              refine j_bipush hx dX12_writes_225 rfl ?_
              refine j_iadd hx (r := 70 * x1 + 60) dX12_writes_227 (by omega) ?_
              refine j_bipush hx dX12_writes_228 rfl ?_
              refine j_iadd hx (r := 70 * x1 + 69) dX12_writes_230 (by omega) ?_
              refine j_aload_n hx 0 dX12_writes_231 rfl ?_
              refine g13_27 hx hG ha kf_RX12_56 dX12_writes_232 ?_
              refine j_sipush hx dX12_writes_235 rfl ?_
              have f52 := zaQ (j := 488) hS0 (zr (k := 27) (t2 := 84) hG ha rfl) (congrArg some (axS_4 488 (by omega))) (zlen hG (zr (k := 27) (t2 := 84) hG ha rfl) (n := 515) rfl rfl) (show 0 ≤ 488 by omega) (by omega) rfl
              refine j_iald hx hG (zr (k := 27) (t2 := 84) hG ha rfl) (by decide) rfl (zlen hG (zr (k := 27) (t2 := 84) hG ha rfl) (n := 515) rfl rfl) (by omega) (by omega) (j := 488) rfl (v := (s0 (gP G a 27) 488)) (by rw [e_s22, zU_at (Or.inl (zne (zr (k := 48) (t2 := 101) hG ha rfl) (zr (k := 27) (t2 := 84) hG ha rfl) (by decide))), e_s19, zU_at (Or.inl (zne (zr (k := 48) (t2 := 101) hG ha rfl) (zr (k := 27) (t2 := 84) hG ha rfl) (by decide))), e_s18, zU_at (Or.inl (zne (zr (k := 48) (t2 := 101) hG ha rfl) (zr (k := 27) (t2 := 84) hG ha rfl) (by decide))), (zFr_g hF_s17 (zr (k := 27) (t2 := 84) hG ha rfl) (by decide)), e_s16, zU_at (Or.inl (zne (zr (k := 48) (t2 := 101) hG ha rfl) (zr (k := 27) (t2 := 84) hG ha rfl) (by decide))), e_s15, zU_at (Or.inl (zne (zr (k := 48) (t2 := 101) hG ha rfl) (zr (k := 27) (t2 := 84) hG ha rfl) (by decide))), (zFr_g hF_s14 (zr (k := 27) (t2 := 84) hG ha rfl) (by decide)), (zFr_g hF_s13 (zr (k := 27) (t2 := 84) hG ha rfl) (by decide)), (zFr_g hF_s2 (zr (k := 27) (t2 := 84) hG ha rfl) (by decide))]) dX12_writes_238 ?_
              refine j_iast hx hG (zr (k := 48) (t2 := 101) hG ha rfl) (by decide) rfl (zlen hG (zr (k := 48) (t2 := 101) hG ha rfl) (n := 210070) rfl rfl) (by omega) (by omega) (j := (70 * x1 + 69).toNat) rfl dX12_writes_239 ?_
              obtain ⟨s23, e_s23⟩ : ∃ z, z = zU s22 (gP G a 48) (70 * x1 + 69).toNat ((s0 (gP G a 27) 488)) := ⟨_, rfl⟩
              rw [← e_s23]
              have hS_s23 : zSK G s23 := by rw [e_s23]; exact zSK_A hS_s22 (zr (k := 48) (t2 := 101) hG ha rfl) rfl rfl rfl (by omega)
              exact j_vret hx hq rfl (by decide) (by decide) dX12_writes_240 ⟨rfl, rfl, hS_s23, (zFr_u (zFr_u (zFr_u (zFr_u (zFr_t (zFr_u (zFr_u (zFr_t (zFr_t (zFr_t zFr_rf hF_s2 (by decide)) hF_s13 (by decide)) hF_s14 (by decide)) e_s15 (zr (k := 48) (t2 := 101) hG ha rfl) (by decide)) e_s16 (zr (k := 48) (t2 := 101) hG ha rfl) (by decide)) hF_s17 (by decide)) e_s18 (zr (k := 48) (t2 := 101) hG ha rfl) (by decide)) e_s19 (zr (k := 48) (t2 := 101) hG ha rfl) (by decide)) e_s22 (zr (k := 48) (t2 := 101) hG ha rfl) (by decide)) e_s23 (zr (k := 48) (t2 := 101) hG ha rfl) (by decide)), trivial⟩
            refine j_icmp_ne hx 218 dX12_writes_204 rfl (by omega) ⟨by decide, by decide⟩ (fun h53 => ?_) (fun h53 => ?_)
            · skip
              refine j_iconst hx dX12_writes_218 ?_
              exact j_sub [2, 3] [(0, .ref a), (2, .int (zI (70 * x1)))] rfl (c219_20 0 (by omega))
            · skip
              refine j_aload_n hx 2 dX12_writes_207 rfl ?_
              refine g13_27 hx hG ha kf_RX12_56 dX12_writes_208 ?_
              refine j_sipush hx dX12_writes_211 rfl ?_
              have f54 := zaQ (j := 489) hS0 (zr (k := 27) (t2 := 84) hG ha rfl) (congrArg some (axS_5 489 (by omega))) (zlen hG (zr (k := 27) (t2 := 84) hG ha rfl) (n := 515) rfl rfl) (show 0 ≤ 489 by omega) (by omega) rfl
              refine j_iald hx hG (zr (k := 27) (t2 := 84) hG ha rfl) (by decide) rfl (zlen hG (zr (k := 27) (t2 := 84) hG ha rfl) (n := 515) rfl rfl) (by omega) (by omega) (j := 489) rfl (v := (s0 (gP G a 27) 489)) (by rw [e_s19, zU_at (Or.inl (zne (zr (k := 48) (t2 := 101) hG ha rfl) (zr (k := 27) (t2 := 84) hG ha rfl) (by decide))), e_s18, zU_at (Or.inl (zne (zr (k := 48) (t2 := 101) hG ha rfl) (zr (k := 27) (t2 := 84) hG ha rfl) (by decide))), (zFr_g hF_s17 (zr (k := 27) (t2 := 84) hG ha rfl) (by decide)), e_s16, zU_at (Or.inl (zne (zr (k := 48) (t2 := 101) hG ha rfl) (zr (k := 27) (t2 := 84) hG ha rfl) (by decide))), e_s15, zU_at (Or.inl (zne (zr (k := 48) (t2 := 101) hG ha rfl) (zr (k := 27) (t2 := 84) hG ha rfl) (by decide))), (zFr_g hF_s14 (zr (k := 27) (t2 := 84) hG ha rfl) (by decide)), (zFr_g hF_s13 (zr (k := 27) (t2 := 84) hG ha rfl) (by decide)), (zFr_g hF_s2 (zr (k := 27) (t2 := 84) hG ha rfl) (by decide))]) dX12_writes_214 ?_
              refine j_goto hx 219 dX12_writes_215 rfl ?_
              exact j_sub [2, 3] [(0, .ref a), (2, .int (zI (70 * x1)))] rfl (c219_20 ((s0 (gP G a 27) 489)) (by omega))
          · skip
            refine j_aload_n hx 2 dX12_writes_42 rfl ?_
            refine j_iload_n hx 1 dX12_writes_43 rfl ?_
            refine j_iconst hx dX12_writes_44 ?_
            refine j_bipush hx dX12_writes_45 rfl ?_
            refine j_iload hx 0 dX12_writes_47 rfl ?_
            refine j_imul hx (r := 60) dX12_writes_49 (by omega) ?_
            refine j_iadd hx (r := 60) dX12_writes_50 (by omega) ?_
            refine j_sipush hx dX12_writes_51 rfl ?_
            refine j_iload hx 0 dX12_writes_54 rfl ?_
            refine j_iadd hx (r := 481) dX12_writes_56 (by omega) ?_
            have g55 : s16 (gP G a 27) (Int.toNat 481) = s16 (gP G a 27) 481 := rfl
            have g56 : s16 (gP G a 27) 481 = s0 (gP G a 27) 481 := (by rw [e_s16, zU_at (Or.inl (zne (zr (k := 48) (t2 := 101) hG ha rfl) (zr (k := 27) (t2 := 84) hG ha rfl) (by decide))), e_s15, zU_at (Or.inl (zne (zr (k := 48) (t2 := 101) hG ha rfl) (zr (k := 27) (t2 := 84) hG ha rfl) (by decide))), (zFr_g hF_s14 (zr (k := 27) (t2 := 84) hG ha rfl) (by decide)), (zFr_g hF_s13 (zr (k := 27) (t2 := 84) hG ha rfl) (by decide)), (zFr_g hF_s2 (zr (k := 27) (t2 := 84) hG ha rfl) (by decide))])
            refine j_callV hx hG (c_X12_puts hst a v32 60 481) lk_RX12_417 ha (by decide) rfl rfl rfl rfl [.int (zI v32), .int (zI 60), .int (zI 481)] ⟨rfl, hG, hS_s16, ha, (by omega), (by omega), (by omega), (by omega)⟩ rfl rfl ⟨by decide, by decide⟩ ⟨by decide, by decide⟩ (k2 := 0) (n2 := 0) rfl rfl (Nat.le_of_ble_eq_true rfl) dX12_writes_57 (kIM (fun v57 s24 hS_s24 hF_s24 q58 => ?_))
            refine j_istore_n hx [(3, .int (zI v57)), (4, .int (zI 1)), (0, .ref a), (2, .int (zI (70 * x1)))] dX12_writes_60 (by decide) rfl ?_
            refine j_aload_n hx 2 dX12_writes_61 rfl ?_
            refine j_iload_n hx 0 dX12_writes_62 rfl ?_
            refine j_sipush hx dX12_writes_63 rfl ?_
            refine j_bipush hx dX12_writes_66 rfl ?_
            refine j_iload hx 1 dX12_writes_68 rfl ?_
            refine j_imul hx (r := 60) dX12_writes_70 (by omega) ?_
            refine j_iadd hx (r := 240) dX12_writes_71 (by omega) ?_
            refine j_sipush hx dX12_writes_72 rfl ?_
            refine j_iload hx 1 dX12_writes_75 rfl ?_
            refine j_iadd hx (r := 484) dX12_writes_77 (by omega) ?_
            have g59 : s24 (gP G a 27) (Int.toNat 484) = s24 (gP G a 27) 484 := rfl
            have g60 : s24 (gP G a 27) 484 = s0 (gP G a 27) 484 := (by rw [(zFr_g hF_s24 (zr (k := 27) (t2 := 84) hG ha rfl) (by decide)), e_s16, zU_at (Or.inl (zne (zr (k := 48) (t2 := 101) hG ha rfl) (zr (k := 27) (t2 := 84) hG ha rfl) (by decide))), e_s15, zU_at (Or.inl (zne (zr (k := 48) (t2 := 101) hG ha rfl) (zr (k := 27) (t2 := 84) hG ha rfl) (by decide))), (zFr_g hF_s14 (zr (k := 27) (t2 := 84) hG ha rfl) (by decide)), (zFr_g hF_s13 (zr (k := 27) (t2 := 84) hG ha rfl) (by decide)), (zFr_g hF_s2 (zr (k := 27) (t2 := 84) hG ha rfl) (by decide))])
            refine j_callV hx hG (c_X12_puts hst a v57 240 484) lk_RX12_417 ha (by decide) rfl rfl rfl rfl [.int (zI v57), .int (zI 240), .int (zI 484)] ⟨rfl, hG, hS_s24, ha, (by omega), (by omega), (by omega), (by omega)⟩ rfl rfl ⟨by decide, by decide⟩ ⟨by decide, by decide⟩ (k2 := 0) (n2 := 0) rfl rfl (Nat.le_of_ble_eq_true rfl) dX12_writes_78 (kIM (fun v61 s25 hS_s25 hF_s25 q62 => ?_))
            refine j_istore_n hx [(3, .int (zI v61)), (4, .int (zI 1)), (0, .ref a), (2, .int (zI (70 * x1)))] dX12_writes_81 (by decide) rfl ?_
            refine j_aload_n hx 2 dX12_writes_82 rfl ?_
            refine g13_48 hx hG ha kf_RX12_109 dX12_writes_83 ?_
            refine j_iload_n hx 3 dX12_writes_86 rfl ?_
            refine j_bipush hx dX12_writes_87 rfl ?_
            refine j_iadd hx (r := 70 * x1 + 60) dX12_writes_89 (by omega) ?_
            refine j_iload hx 1 dX12_writes_90 rfl ?_
            refine j_iadd hx (r := 70 * x1 + 61) dX12_writes_92 (by omega) ?_
            refine j_aload_n hx 2 dX12_writes_93 rfl ?_
            refine g13_27 hx hG ha kf_RX12_56 dX12_writes_94 ?_
            refine j_sipush hx dX12_writes_97 rfl ?_
            refine j_iload hx 1 dX12_writes_100 rfl ?_
            refine j_iadd hx (r := 481) dX12_writes_102 (by omega) ?_
            have f63 := zaQ (j := 481) hS0 (zr (k := 27) (t2 := 84) hG ha rfl) (congrArg some (axS_2 481 (by omega))) (zlen hG (zr (k := 27) (t2 := 84) hG ha rfl) (n := 515) rfl rfl) (show 0 ≤ 481 by omega) (by omega) rfl
            have c64 := zc_1 (j := 481) hS0 (zr (k := 27) (t2 := 84) hG ha rfl) (zn hG (zr (k := 27) (t2 := 84) hG ha rfl) rfl) (by omega) (by omega)
            have c65 : 480 ≠ 481 → s0 (gP G a 27) 480 + s0 (gP G a 27) 481 ≤ zc (s0 (gP G a 27)) := fun e => zc_2 hS0 (zr (k := 27) (t2 := 84) hG ha rfl) (zn hG (zr (k := 27) (t2 := 84) hG ha rfl) rfl) (by omega) (by omega) (by omega) (by omega) e
            have c66 : 483 ≠ 481 → s0 (gP G a 27) 483 + s0 (gP G a 27) 481 ≤ zc (s0 (gP G a 27)) := fun e => zc_2 hS0 (zr (k := 27) (t2 := 84) hG ha rfl) (zn hG (zr (k := 27) (t2 := 84) hG ha rfl) rfl) (by omega) (by omega) (by omega) (by omega) e
            refine j_iald hx hG (zr (k := 27) (t2 := 84) hG ha rfl) (by decide) rfl (zlen hG (zr (k := 27) (t2 := 84) hG ha rfl) (n := 515) rfl rfl) (by omega) (by omega) (j := 481) rfl (v := (s0 (gP G a 27) 481)) (by rw [(zFr_g hF_s25 (zr (k := 27) (t2 := 84) hG ha rfl) (by decide)), (zFr_g hF_s24 (zr (k := 27) (t2 := 84) hG ha rfl) (by decide)), e_s16, zU_at (Or.inl (zne (zr (k := 48) (t2 := 101) hG ha rfl) (zr (k := 27) (t2 := 84) hG ha rfl) (by decide))), e_s15, zU_at (Or.inl (zne (zr (k := 48) (t2 := 101) hG ha rfl) (zr (k := 27) (t2 := 84) hG ha rfl) (by decide))), (zFr_g hF_s14 (zr (k := 27) (t2 := 84) hG ha rfl) (by decide)), (zFr_g hF_s13 (zr (k := 27) (t2 := 84) hG ha rfl) (by decide)), (zFr_g hF_s2 (zr (k := 27) (t2 := 84) hG ha rfl) (by decide))]) dX12_writes_103 ?_
            refine j_iast hx hG (zr (k := 48) (t2 := 101) hG ha rfl) (by decide) rfl (zlen hG (zr (k := 48) (t2 := 101) hG ha rfl) (n := 210070) rfl rfl) (by omega) (by omega) (j := (70 * x1 + 61).toNat) rfl dX12_writes_104 ?_
            obtain ⟨s26, e_s26⟩ : ∃ z, z = zU s25 (gP G a 48) (70 * x1 + 61).toNat ((s0 (gP G a 27) 481)) := ⟨_, rfl⟩
            rw [← e_s26]
            have hS_s26 : zSK G s26 := by rw [e_s26]; exact zSK_A hS_s25 (zr (k := 48) (t2 := 101) hG ha rfl) rfl rfl rfl (by omega)
            refine j_aload_n hx 2 dX12_writes_105 rfl ?_
            refine g13_48 hx hG ha kf_RX12_109 dX12_writes_106 ?_
            refine j_iload_n hx 3 dX12_writes_109 rfl ?_
            refine j_bipush hx dX12_writes_110 rfl ?_
            refine j_iadd hx (r := 70 * x1 + 60) dX12_writes_112 (by omega) ?_
            refine j_iconst hx dX12_writes_113 ?_
            refine j_iadd hx (r := 70 * x1 + 63) dX12_writes_114 (by omega) ?_
            refine j_iload hx 1 dX12_writes_115 rfl ?_
            refine j_iadd hx (r := 70 * x1 + 64) dX12_writes_117 (by omega) ?_
            refine j_aload_n hx 2 dX12_writes_118 rfl ?_
            refine g13_27 hx hG ha kf_RX12_56 dX12_writes_119 ?_
            refine j_sipush hx dX12_writes_122 rfl ?_
            refine j_iload hx 1 dX12_writes_125 rfl ?_
            refine j_iadd hx (r := 484) dX12_writes_127 (by omega) ?_
            have f67 := zaQ (j := 484) hS0 (zr (k := 27) (t2 := 84) hG ha rfl) (congrArg some (axS_2 484 (by omega))) (zlen hG (zr (k := 27) (t2 := 84) hG ha rfl) (n := 515) rfl rfl) (show 0 ≤ 484 by omega) (by omega) rfl
            have c68 := zc_1 (j := 484) hS0 (zr (k := 27) (t2 := 84) hG ha rfl) (zn hG (zr (k := 27) (t2 := 84) hG ha rfl) rfl) (by omega) (by omega)
            have c69 : 480 ≠ 484 → s0 (gP G a 27) 480 + s0 (gP G a 27) 484 ≤ zc (s0 (gP G a 27)) := fun e => zc_2 hS0 (zr (k := 27) (t2 := 84) hG ha rfl) (zn hG (zr (k := 27) (t2 := 84) hG ha rfl) rfl) (by omega) (by omega) (by omega) (by omega) e
            have c70 : 483 ≠ 484 → s0 (gP G a 27) 483 + s0 (gP G a 27) 484 ≤ zc (s0 (gP G a 27)) := fun e => zc_2 hS0 (zr (k := 27) (t2 := 84) hG ha rfl) (zn hG (zr (k := 27) (t2 := 84) hG ha rfl) rfl) (by omega) (by omega) (by omega) (by omega) e
            have c71 : 481 ≠ 484 → s0 (gP G a 27) 481 + s0 (gP G a 27) 484 ≤ zc (s0 (gP G a 27)) := fun e => zc_2 hS0 (zr (k := 27) (t2 := 84) hG ha rfl) (zn hG (zr (k := 27) (t2 := 84) hG ha rfl) rfl) (by omega) (by omega) (by omega) (by omega) e
            refine j_iald hx hG (zr (k := 27) (t2 := 84) hG ha rfl) (by decide) rfl (zlen hG (zr (k := 27) (t2 := 84) hG ha rfl) (n := 515) rfl rfl) (by omega) (by omega) (j := 484) rfl (v := (s0 (gP G a 27) 484)) (by rw [e_s26, zU_at (Or.inl (zne (zr (k := 48) (t2 := 101) hG ha rfl) (zr (k := 27) (t2 := 84) hG ha rfl) (by decide))), (zFr_g hF_s25 (zr (k := 27) (t2 := 84) hG ha rfl) (by decide)), (zFr_g hF_s24 (zr (k := 27) (t2 := 84) hG ha rfl) (by decide)), e_s16, zU_at (Or.inl (zne (zr (k := 48) (t2 := 101) hG ha rfl) (zr (k := 27) (t2 := 84) hG ha rfl) (by decide))), e_s15, zU_at (Or.inl (zne (zr (k := 48) (t2 := 101) hG ha rfl) (zr (k := 27) (t2 := 84) hG ha rfl) (by decide))), (zFr_g hF_s14 (zr (k := 27) (t2 := 84) hG ha rfl) (by decide)), (zFr_g hF_s13 (zr (k := 27) (t2 := 84) hG ha rfl) (by decide)), (zFr_g hF_s2 (zr (k := 27) (t2 := 84) hG ha rfl) (by decide))]) dX12_writes_128 ?_
            refine j_iast hx hG (zr (k := 48) (t2 := 101) hG ha rfl) (by decide) rfl (zlen hG (zr (k := 48) (t2 := 101) hG ha rfl) (n := 210070) rfl rfl) (by omega) (by omega) (j := (70 * x1 + 64).toNat) rfl dX12_writes_129 ?_
            obtain ⟨s27, e_s27⟩ : ∃ z, z = zU s26 (gP G a 48) (70 * x1 + 64).toNat ((s0 (gP G a 27) 484)) := ⟨_, rfl⟩
            rw [← e_s27]
            have hS_s27 : zSK G s27 := by rw [e_s27]; exact zSK_A hS_s26 (zr (k := 48) (t2 := 101) hG ha rfl) rfl rfl rfl (by omega)
            refine j_iinc hx 1 [(4, .int (zI 2)), (3, .int (zI v61)), (0, .ref a), (2, .int (zI (70 * x1)))] dX12_writes_130 rfl (by omega) (by decide) rfl ?_
            refine j_goto hx 33 dX12_writes_133 rfl ?_
            refine j_iload hx 0 dX12_writes_33 rfl ?_
            refine j_aload_n hx 2 dX12_writes_35 rfl ?_
            refine g13_24 hx hG ha kf_RX12_189 (v := (s0 a 24)) (by rw [e_s27, zU_at (Or.inl (zne (zr (k := 48) (t2 := 101) hG ha rfl) ha (by decide))), e_s26, zU_at (Or.inl (zne (zr (k := 48) (t2 := 101) hG ha rfl) ha (by decide))), (zFr_g hF_s25 ha (by decide)), (zFr_g hF_s24 ha (by decide)), e_s16, zU_at (Or.inl (zne (zr (k := 48) (t2 := 101) hG ha rfl) ha (by decide))), e_s15, zU_at (Or.inl (zne (zr (k := 48) (t2 := 101) hG ha rfl) ha (by decide))), (zFr_g hF_s14 ha (by decide)), (zFr_g hF_s13 ha (by decide)), (zFr_g hF_s2 ha (by decide))]) dX12_writes_36 ?_
            refine j_icmp_ge hx 136 dX12_writes_39 rfl ⟨by decide, by decide⟩ (by omega) (fun h72 => ?_) (fun h72 => ?_)
            · skip
              refine j_aload_n hx 2 dX12_writes_136 rfl ?_
              refine j_iload_n hx 1 dX12_writes_137 rfl ?_
              refine j_sipush hx dX12_writes_138 rfl ?_
              refine j_sipush hx dX12_writes_141 rfl ?_
              have g73 : s27 (gP G a 27) (Int.toNat 486) = s27 (gP G a 27) 486 := rfl
              have g74 : s27 (gP G a 27) 486 = s0 (gP G a 27) 486 := (by rw [e_s27, zU_at (Or.inl (zne (zr (k := 48) (t2 := 101) hG ha rfl) (zr (k := 27) (t2 := 84) hG ha rfl) (by decide))), e_s26, zU_at (Or.inl (zne (zr (k := 48) (t2 := 101) hG ha rfl) (zr (k := 27) (t2 := 84) hG ha rfl) (by decide))), (zFr_g hF_s25 (zr (k := 27) (t2 := 84) hG ha rfl) (by decide)), (zFr_g hF_s24 (zr (k := 27) (t2 := 84) hG ha rfl) (by decide)), e_s16, zU_at (Or.inl (zne (zr (k := 48) (t2 := 101) hG ha rfl) (zr (k := 27) (t2 := 84) hG ha rfl) (by decide))), e_s15, zU_at (Or.inl (zne (zr (k := 48) (t2 := 101) hG ha rfl) (zr (k := 27) (t2 := 84) hG ha rfl) (by decide))), (zFr_g hF_s14 (zr (k := 27) (t2 := 84) hG ha rfl) (by decide)), (zFr_g hF_s13 (zr (k := 27) (t2 := 84) hG ha rfl) (by decide)), (zFr_g hF_s2 (zr (k := 27) (t2 := 84) hG ha rfl) (by decide))])
              refine j_callV hx hG (c_X12_puts hst a v61 360 486) lk_RX12_417 ha (by decide) rfl rfl rfl rfl [.int (zI v61), .int (zI 360), .int (zI 486)] ⟨rfl, hG, hS_s27, ha, (by omega), (by omega), (by omega), (by omega)⟩ rfl rfl ⟨by decide, by decide⟩ ⟨by decide, by decide⟩ (k2 := 0) (n2 := 0) rfl rfl (Nat.le_of_ble_eq_true rfl) dX12_writes_144 (kIM (fun v75 s28 hS_s28 hF_s28 q76 => ?_))
              refine j_pop hx dX12_writes_147 rfl ?_
              refine j_aload_n hx 2 dX12_writes_148 rfl ?_
              refine g13_48 hx hG ha kf_RX12_109 dX12_writes_149 ?_
              refine j_iload_n hx 3 dX12_writes_152 rfl ?_
              refine j_bipush hx dX12_writes_153 rfl ?_
              refine j_iadd hx (r := 70 * x1 + 60) dX12_writes_155 (by omega) ?_
              refine j_bipush hx dX12_writes_156 rfl ?_
              refine j_iadd hx (r := 70 * x1 + 66) dX12_writes_158 (by omega) ?_
              refine j_aload_n hx 2 dX12_writes_159 rfl ?_
              refine g13_27 hx hG ha kf_RX12_56 dX12_writes_160 ?_
              refine j_sipush hx dX12_writes_163 rfl ?_
              have f77 := zaQ (j := 486) hS0 (zr (k := 27) (t2 := 84) hG ha rfl) (congrArg some (axS_2 486 (by omega))) (zlen hG (zr (k := 27) (t2 := 84) hG ha rfl) (n := 515) rfl rfl) (show 0 ≤ 486 by omega) (by omega) rfl
              have c78 := zc_1 (j := 486) hS0 (zr (k := 27) (t2 := 84) hG ha rfl) (zn hG (zr (k := 27) (t2 := 84) hG ha rfl) rfl) (by omega) (by omega)
              have c79 : 480 ≠ 486 → s0 (gP G a 27) 480 + s0 (gP G a 27) 486 ≤ zc (s0 (gP G a 27)) := fun e => zc_2 hS0 (zr (k := 27) (t2 := 84) hG ha rfl) (zn hG (zr (k := 27) (t2 := 84) hG ha rfl) rfl) (by omega) (by omega) (by omega) (by omega) e
              have c80 : 483 ≠ 486 → s0 (gP G a 27) 483 + s0 (gP G a 27) 486 ≤ zc (s0 (gP G a 27)) := fun e => zc_2 hS0 (zr (k := 27) (t2 := 84) hG ha rfl) (zn hG (zr (k := 27) (t2 := 84) hG ha rfl) rfl) (by omega) (by omega) (by omega) (by omega) e
              have c81 : 481 ≠ 486 → s0 (gP G a 27) 481 + s0 (gP G a 27) 486 ≤ zc (s0 (gP G a 27)) := fun e => zc_2 hS0 (zr (k := 27) (t2 := 84) hG ha rfl) (zn hG (zr (k := 27) (t2 := 84) hG ha rfl) rfl) (by omega) (by omega) (by omega) (by omega) e
              have c82 : 484 ≠ 486 → s0 (gP G a 27) 484 + s0 (gP G a 27) 486 ≤ zc (s0 (gP G a 27)) := fun e => zc_2 hS0 (zr (k := 27) (t2 := 84) hG ha rfl) (zn hG (zr (k := 27) (t2 := 84) hG ha rfl) rfl) (by omega) (by omega) (by omega) (by omega) e
              refine j_iald hx hG (zr (k := 27) (t2 := 84) hG ha rfl) (by decide) rfl (zlen hG (zr (k := 27) (t2 := 84) hG ha rfl) (n := 515) rfl rfl) (by omega) (by omega) (j := 486) rfl (v := (s0 (gP G a 27) 486)) (by rw [(zFr_g hF_s28 (zr (k := 27) (t2 := 84) hG ha rfl) (by decide)), e_s27, zU_at (Or.inl (zne (zr (k := 48) (t2 := 101) hG ha rfl) (zr (k := 27) (t2 := 84) hG ha rfl) (by decide))), e_s26, zU_at (Or.inl (zne (zr (k := 48) (t2 := 101) hG ha rfl) (zr (k := 27) (t2 := 84) hG ha rfl) (by decide))), (zFr_g hF_s25 (zr (k := 27) (t2 := 84) hG ha rfl) (by decide)), (zFr_g hF_s24 (zr (k := 27) (t2 := 84) hG ha rfl) (by decide)), e_s16, zU_at (Or.inl (zne (zr (k := 48) (t2 := 101) hG ha rfl) (zr (k := 27) (t2 := 84) hG ha rfl) (by decide))), e_s15, zU_at (Or.inl (zne (zr (k := 48) (t2 := 101) hG ha rfl) (zr (k := 27) (t2 := 84) hG ha rfl) (by decide))), (zFr_g hF_s14 (zr (k := 27) (t2 := 84) hG ha rfl) (by decide)), (zFr_g hF_s13 (zr (k := 27) (t2 := 84) hG ha rfl) (by decide)), (zFr_g hF_s2 (zr (k := 27) (t2 := 84) hG ha rfl) (by decide))]) dX12_writes_166 ?_
              refine j_iast hx hG (zr (k := 48) (t2 := 101) hG ha rfl) (by decide) rfl (zlen hG (zr (k := 48) (t2 := 101) hG ha rfl) (n := 210070) rfl rfl) (by omega) (by omega) (j := (70 * x1 + 66).toNat) rfl dX12_writes_167 ?_
              obtain ⟨s29, e_s29⟩ : ∃ z, z = zU s28 (gP G a 48) (70 * x1 + 66).toNat ((s0 (gP G a 27) 486)) := ⟨_, rfl⟩
              rw [← e_s29]
              have hS_s29 : zSK G s29 := by rw [e_s29]; exact zSK_A hS_s28 (zr (k := 48) (t2 := 101) hG ha rfl) rfl rfl rfl (by omega)
              refine j_aload_n hx 2 dX12_writes_168 rfl ?_
              refine g13_48 hx hG ha kf_RX12_109 dX12_writes_169 ?_
              refine j_iload_n hx 3 dX12_writes_172 rfl ?_
              refine j_bipush hx dX12_writes_173 rfl ?_
              refine j_iadd hx (r := 70 * x1 + 60) dX12_writes_175 (by omega) ?_
              refine j_bipush hx dX12_writes_176 rfl ?_
              refine j_iadd hx (r := 70 * x1 + 67) dX12_writes_178 (by omega) ?_
              refine j_aload_n hx 2 dX12_writes_179 rfl ?_
              refine j_callV hx hG (c_X12_whose hst a) lk_RX12_336 ha (by decide) rfl rfl rfl rfl [] ⟨rfl, hG, hS_s29, ha⟩ rfl rfl ⟨by decide, by decide⟩ ⟨by decide, by decide⟩ (k2 := 0) (n2 := 0) rfl rfl (Nat.le_of_ble_eq_true rfl) dX12_writes_180 (kIP (fun v83 q84 => ?_))
              refine j_iast hx hG (zr (k := 48) (t2 := 101) hG ha rfl) (by decide) rfl (zlen hG (zr (k := 48) (t2 := 101) hG ha rfl) (n := 210070) rfl rfl) (by omega) (by omega) (j := (70 * x1 + 67).toNat) rfl dX12_writes_183 ?_
              obtain ⟨s30, e_s30⟩ : ∃ z, z = zU s29 (gP G a 48) (70 * x1 + 67).toNat v83 := ⟨_, rfl⟩
              rw [← e_s30]
              have hS_s30 : zSK G s30 := by rw [e_s30]; exact zSK_A hS_s29 (zr (k := 48) (t2 := 101) hG ha rfl) rfl rfl rfl (by omega)
              refine j_aload_n hx 2 dX12_writes_184 rfl ?_
              refine g13_48 hx hG ha kf_RX12_109 dX12_writes_185 ?_
              refine j_iload_n hx 3 dX12_writes_188 rfl ?_
              refine j_bipush hx dX12_writes_189 rfl ?_
              refine j_iadd hx (r := 70 * x1 + 60) dX12_writes_191 (by omega) ?_
              refine j_bipush hx dX12_writes_192 rfl ?_
              refine j_iadd hx (r := 70 * x1 + 68) dX12_writes_194 (by omega) ?_
              refine j_aload_n hx 2 dX12_writes_195 rfl ?_
              refine g13_27 hx hG ha kf_RX12_56 dX12_writes_196 ?_
              refine j_sipush hx dX12_writes_199 rfl ?_
              have f85 := zaQ (j := 490) hS0 (zr (k := 27) (t2 := 84) hG ha rfl) (congrArg some (axS_6 490 (by omega))) (zlen hG (zr (k := 27) (t2 := 84) hG ha rfl) (n := 515) rfl rfl) (show 0 ≤ 490 by omega) (by omega) rfl
              refine j_iald hx hG (zr (k := 27) (t2 := 84) hG ha rfl) (by decide) rfl (zlen hG (zr (k := 27) (t2 := 84) hG ha rfl) (n := 515) rfl rfl) (by omega) (by omega) (j := 490) rfl (v := (s0 (gP G a 27) 490)) (by rw [e_s30, zU_at (Or.inl (zne (zr (k := 48) (t2 := 101) hG ha rfl) (zr (k := 27) (t2 := 84) hG ha rfl) (by decide))), e_s29, zU_at (Or.inl (zne (zr (k := 48) (t2 := 101) hG ha rfl) (zr (k := 27) (t2 := 84) hG ha rfl) (by decide))), (zFr_g hF_s28 (zr (k := 27) (t2 := 84) hG ha rfl) (by decide)), e_s27, zU_at (Or.inl (zne (zr (k := 48) (t2 := 101) hG ha rfl) (zr (k := 27) (t2 := 84) hG ha rfl) (by decide))), e_s26, zU_at (Or.inl (zne (zr (k := 48) (t2 := 101) hG ha rfl) (zr (k := 27) (t2 := 84) hG ha rfl) (by decide))), (zFr_g hF_s25 (zr (k := 27) (t2 := 84) hG ha rfl) (by decide)), (zFr_g hF_s24 (zr (k := 27) (t2 := 84) hG ha rfl) (by decide)), e_s16, zU_at (Or.inl (zne (zr (k := 48) (t2 := 101) hG ha rfl) (zr (k := 27) (t2 := 84) hG ha rfl) (by decide))), e_s15, zU_at (Or.inl (zne (zr (k := 48) (t2 := 101) hG ha rfl) (zr (k := 27) (t2 := 84) hG ha rfl) (by decide))), (zFr_g hF_s14 (zr (k := 27) (t2 := 84) hG ha rfl) (by decide)), (zFr_g hF_s13 (zr (k := 27) (t2 := 84) hG ha rfl) (by decide)), (zFr_g hF_s2 (zr (k := 27) (t2 := 84) hG ha rfl) (by decide))]) dX12_writes_202 ?_
              refine j_iconst hx dX12_writes_203 ?_
              have c219_31 : ∀ (v86 : Int), ((-2147483648) ≤ v86 ∧ v86 ≤ 2147483647) → JJ X E 5 G s30 0 0 [(0, .ref a), (2, .int (zI (70 * x1)))] 219 [.int (zI v86), .int (zI (70 * x1 + 68)), .ref (gP G a 48)] := by
                intro v86 fA32
                refine j_iast hx hG (zr (k := 48) (t2 := 101) hG ha rfl) (by decide) rfl (zlen hG (zr (k := 48) (t2 := 101) hG ha rfl) (n := 210070) rfl rfl) (by omega) (by omega) (j := (70 * x1 + 68).toNat) rfl dX12_writes_219 ?_
                obtain ⟨s33, e_s33⟩ : ∃ z, z = zU s30 (gP G a 48) (70 * x1 + 68).toNat v86 := ⟨_, rfl⟩
                rw [← e_s33]
                have hS_s33 : zSK G s33 := by rw [e_s33]; exact zSK_A hS_s30 (zr (k := 48) (t2 := 101) hG ha rfl) rfl rfl rfl (by omega)
                refine j_aload_n hx 0 dX12_writes_220 rfl ?_
                refine g13_48 hx hG ha kf_RX12_109 dX12_writes_221 ?_
                refine j_iload_n hx 1 dX12_writes_224 rfl ?_
                refine j_bipush hx dX12_writes_225 rfl ?_
                refine j_iadd hx (r := 70 * x1 + 60) dX12_writes_227 (by omega) ?_
                refine j_bipush hx dX12_writes_228 rfl ?_
                refine j_iadd hx (r := 70 * x1 + 69) dX12_writes_230 (by omega) ?_
                refine j_aload_n hx 0 dX12_writes_231 rfl ?_
                refine g13_27 hx hG ha kf_RX12_56 dX12_writes_232 ?_
                refine j_sipush hx dX12_writes_235 rfl ?_
                have f87 := zaQ (j := 488) hS0 (zr (k := 27) (t2 := 84) hG ha rfl) (congrArg some (axS_4 488 (by omega))) (zlen hG (zr (k := 27) (t2 := 84) hG ha rfl) (n := 515) rfl rfl) (show 0 ≤ 488 by omega) (by omega) rfl
                refine j_iald hx hG (zr (k := 27) (t2 := 84) hG ha rfl) (by decide) rfl (zlen hG (zr (k := 27) (t2 := 84) hG ha rfl) (n := 515) rfl rfl) (by omega) (by omega) (j := 488) rfl (v := (s0 (gP G a 27) 488)) (by rw [e_s33, zU_at (Or.inl (zne (zr (k := 48) (t2 := 101) hG ha rfl) (zr (k := 27) (t2 := 84) hG ha rfl) (by decide))), e_s30, zU_at (Or.inl (zne (zr (k := 48) (t2 := 101) hG ha rfl) (zr (k := 27) (t2 := 84) hG ha rfl) (by decide))), e_s29, zU_at (Or.inl (zne (zr (k := 48) (t2 := 101) hG ha rfl) (zr (k := 27) (t2 := 84) hG ha rfl) (by decide))), (zFr_g hF_s28 (zr (k := 27) (t2 := 84) hG ha rfl) (by decide)), e_s27, zU_at (Or.inl (zne (zr (k := 48) (t2 := 101) hG ha rfl) (zr (k := 27) (t2 := 84) hG ha rfl) (by decide))), e_s26, zU_at (Or.inl (zne (zr (k := 48) (t2 := 101) hG ha rfl) (zr (k := 27) (t2 := 84) hG ha rfl) (by decide))), (zFr_g hF_s25 (zr (k := 27) (t2 := 84) hG ha rfl) (by decide)), (zFr_g hF_s24 (zr (k := 27) (t2 := 84) hG ha rfl) (by decide)), e_s16, zU_at (Or.inl (zne (zr (k := 48) (t2 := 101) hG ha rfl) (zr (k := 27) (t2 := 84) hG ha rfl) (by decide))), e_s15, zU_at (Or.inl (zne (zr (k := 48) (t2 := 101) hG ha rfl) (zr (k := 27) (t2 := 84) hG ha rfl) (by decide))), (zFr_g hF_s14 (zr (k := 27) (t2 := 84) hG ha rfl) (by decide)), (zFr_g hF_s13 (zr (k := 27) (t2 := 84) hG ha rfl) (by decide)), (zFr_g hF_s2 (zr (k := 27) (t2 := 84) hG ha rfl) (by decide))]) dX12_writes_238 ?_
                refine j_iast hx hG (zr (k := 48) (t2 := 101) hG ha rfl) (by decide) rfl (zlen hG (zr (k := 48) (t2 := 101) hG ha rfl) (n := 210070) rfl rfl) (by omega) (by omega) (j := (70 * x1 + 69).toNat) rfl dX12_writes_239 ?_
                obtain ⟨s34, e_s34⟩ : ∃ z, z = zU s33 (gP G a 48) (70 * x1 + 69).toNat ((s0 (gP G a 27) 488)) := ⟨_, rfl⟩
                rw [← e_s34]
                have hS_s34 : zSK G s34 := by rw [e_s34]; exact zSK_A hS_s33 (zr (k := 48) (t2 := 101) hG ha rfl) rfl rfl rfl (by omega)
                exact j_vret hx hq rfl (by decide) (by decide) dX12_writes_240 ⟨rfl, rfl, hS_s34, (zFr_u (zFr_u (zFr_u (zFr_u (zFr_t (zFr_u (zFr_u (zFr_t (zFr_t (zFr_u (zFr_u (zFr_t (zFr_t (zFr_t zFr_rf hF_s2 (by decide)) hF_s13 (by decide)) hF_s14 (by decide)) e_s15 (zr (k := 48) (t2 := 101) hG ha rfl) (by decide)) e_s16 (zr (k := 48) (t2 := 101) hG ha rfl) (by decide)) hF_s24 (by decide)) hF_s25 (by decide)) e_s26 (zr (k := 48) (t2 := 101) hG ha rfl) (by decide)) e_s27 (zr (k := 48) (t2 := 101) hG ha rfl) (by decide)) hF_s28 (by decide)) e_s29 (zr (k := 48) (t2 := 101) hG ha rfl) (by decide)) e_s30 (zr (k := 48) (t2 := 101) hG ha rfl) (by decide)) e_s33 (zr (k := 48) (t2 := 101) hG ha rfl) (by decide)) e_s34 (zr (k := 48) (t2 := 101) hG ha rfl) (by decide)), trivial⟩
              refine j_icmp_ne hx 218 dX12_writes_204 rfl (by omega) ⟨by decide, by decide⟩ (fun h88 => ?_) (fun h88 => ?_)
              · skip
                refine j_iconst hx dX12_writes_218 ?_
                exact j_sub [2, 3] [(0, .ref a), (2, .int (zI (70 * x1)))] rfl (c219_31 0 (by omega))
              · skip
                refine j_aload_n hx 2 dX12_writes_207 rfl ?_
                refine g13_27 hx hG ha kf_RX12_56 dX12_writes_208 ?_
                refine j_sipush hx dX12_writes_211 rfl ?_
                have f89 := zaQ (j := 489) hS0 (zr (k := 27) (t2 := 84) hG ha rfl) (congrArg some (axS_5 489 (by omega))) (zlen hG (zr (k := 27) (t2 := 84) hG ha rfl) (n := 515) rfl rfl) (show 0 ≤ 489 by omega) (by omega) rfl
                refine j_iald hx hG (zr (k := 27) (t2 := 84) hG ha rfl) (by decide) rfl (zlen hG (zr (k := 27) (t2 := 84) hG ha rfl) (n := 515) rfl rfl) (by omega) (by omega) (j := 489) rfl (v := (s0 (gP G a 27) 489)) (by rw [e_s30, zU_at (Or.inl (zne (zr (k := 48) (t2 := 101) hG ha rfl) (zr (k := 27) (t2 := 84) hG ha rfl) (by decide))), e_s29, zU_at (Or.inl (zne (zr (k := 48) (t2 := 101) hG ha rfl) (zr (k := 27) (t2 := 84) hG ha rfl) (by decide))), (zFr_g hF_s28 (zr (k := 27) (t2 := 84) hG ha rfl) (by decide)), e_s27, zU_at (Or.inl (zne (zr (k := 48) (t2 := 101) hG ha rfl) (zr (k := 27) (t2 := 84) hG ha rfl) (by decide))), e_s26, zU_at (Or.inl (zne (zr (k := 48) (t2 := 101) hG ha rfl) (zr (k := 27) (t2 := 84) hG ha rfl) (by decide))), (zFr_g hF_s25 (zr (k := 27) (t2 := 84) hG ha rfl) (by decide)), (zFr_g hF_s24 (zr (k := 27) (t2 := 84) hG ha rfl) (by decide)), e_s16, zU_at (Or.inl (zne (zr (k := 48) (t2 := 101) hG ha rfl) (zr (k := 27) (t2 := 84) hG ha rfl) (by decide))), e_s15, zU_at (Or.inl (zne (zr (k := 48) (t2 := 101) hG ha rfl) (zr (k := 27) (t2 := 84) hG ha rfl) (by decide))), (zFr_g hF_s14 (zr (k := 27) (t2 := 84) hG ha rfl) (by decide)), (zFr_g hF_s13 (zr (k := 27) (t2 := 84) hG ha rfl) (by decide)), (zFr_g hF_s2 (zr (k := 27) (t2 := 84) hG ha rfl) (by decide))]) dX12_writes_214 ?_
                refine j_goto hx 219 dX12_writes_215 rfl ?_
                exact j_sub [2, 3] [(0, .ref a), (2, .int (zI (70 * x1)))] rfl (c219_31 ((s0 (gP G a 27) 489)) (by omega))
            · skip
              refine j_aload_n hx 2 dX12_writes_42 rfl ?_
              refine j_iload_n hx 1 dX12_writes_43 rfl ?_
              refine j_iconst hx dX12_writes_44 ?_
              refine j_bipush hx dX12_writes_45 rfl ?_
              refine j_iload hx 0 dX12_writes_47 rfl ?_
              refine j_imul hx (r := 120) dX12_writes_49 (by omega) ?_
              refine j_iadd hx (r := 120) dX12_writes_50 (by omega) ?_
              refine j_sipush hx dX12_writes_51 rfl ?_
              refine j_iload hx 0 dX12_writes_54 rfl ?_
              refine j_iadd hx (r := 482) dX12_writes_56 (by omega) ?_
              have g90 : s27 (gP G a 27) (Int.toNat 482) = s27 (gP G a 27) 482 := rfl
              have g91 : s27 (gP G a 27) 482 = s0 (gP G a 27) 482 := (by rw [e_s27, zU_at (Or.inl (zne (zr (k := 48) (t2 := 101) hG ha rfl) (zr (k := 27) (t2 := 84) hG ha rfl) (by decide))), e_s26, zU_at (Or.inl (zne (zr (k := 48) (t2 := 101) hG ha rfl) (zr (k := 27) (t2 := 84) hG ha rfl) (by decide))), (zFr_g hF_s25 (zr (k := 27) (t2 := 84) hG ha rfl) (by decide)), (zFr_g hF_s24 (zr (k := 27) (t2 := 84) hG ha rfl) (by decide)), e_s16, zU_at (Or.inl (zne (zr (k := 48) (t2 := 101) hG ha rfl) (zr (k := 27) (t2 := 84) hG ha rfl) (by decide))), e_s15, zU_at (Or.inl (zne (zr (k := 48) (t2 := 101) hG ha rfl) (zr (k := 27) (t2 := 84) hG ha rfl) (by decide))), (zFr_g hF_s14 (zr (k := 27) (t2 := 84) hG ha rfl) (by decide)), (zFr_g hF_s13 (zr (k := 27) (t2 := 84) hG ha rfl) (by decide)), (zFr_g hF_s2 (zr (k := 27) (t2 := 84) hG ha rfl) (by decide))])
              refine j_callV hx hG (c_X12_puts hst a v61 120 482) lk_RX12_417 ha (by decide) rfl rfl rfl rfl [.int (zI v61), .int (zI 120), .int (zI 482)] ⟨rfl, hG, hS_s27, ha, (by omega), (by omega), (by omega), (by omega)⟩ rfl rfl ⟨by decide, by decide⟩ ⟨by decide, by decide⟩ (k2 := 0) (n2 := 0) rfl rfl (Nat.le_of_ble_eq_true rfl) dX12_writes_57 (kIM (fun v92 s35 hS_s35 hF_s35 q93 => ?_))
              refine j_istore_n hx [(3, .int (zI v92)), (4, .int (zI 2)), (0, .ref a), (2, .int (zI (70 * x1)))] dX12_writes_60 (by decide) rfl ?_
              refine j_aload_n hx 2 dX12_writes_61 rfl ?_
              refine j_iload_n hx 0 dX12_writes_62 rfl ?_
              refine j_sipush hx dX12_writes_63 rfl ?_
              refine j_bipush hx dX12_writes_66 rfl ?_
              refine j_iload hx 1 dX12_writes_68 rfl ?_
              refine j_imul hx (r := 120) dX12_writes_70 (by omega) ?_
              refine j_iadd hx (r := 300) dX12_writes_71 (by omega) ?_
              refine j_sipush hx dX12_writes_72 rfl ?_
              refine j_iload hx 1 dX12_writes_75 rfl ?_
              refine j_iadd hx (r := 485) dX12_writes_77 (by omega) ?_
              have g94 : s35 (gP G a 27) (Int.toNat 485) = s35 (gP G a 27) 485 := rfl
              have g95 : s35 (gP G a 27) 485 = s0 (gP G a 27) 485 := (by rw [(zFr_g hF_s35 (zr (k := 27) (t2 := 84) hG ha rfl) (by decide)), e_s27, zU_at (Or.inl (zne (zr (k := 48) (t2 := 101) hG ha rfl) (zr (k := 27) (t2 := 84) hG ha rfl) (by decide))), e_s26, zU_at (Or.inl (zne (zr (k := 48) (t2 := 101) hG ha rfl) (zr (k := 27) (t2 := 84) hG ha rfl) (by decide))), (zFr_g hF_s25 (zr (k := 27) (t2 := 84) hG ha rfl) (by decide)), (zFr_g hF_s24 (zr (k := 27) (t2 := 84) hG ha rfl) (by decide)), e_s16, zU_at (Or.inl (zne (zr (k := 48) (t2 := 101) hG ha rfl) (zr (k := 27) (t2 := 84) hG ha rfl) (by decide))), e_s15, zU_at (Or.inl (zne (zr (k := 48) (t2 := 101) hG ha rfl) (zr (k := 27) (t2 := 84) hG ha rfl) (by decide))), (zFr_g hF_s14 (zr (k := 27) (t2 := 84) hG ha rfl) (by decide)), (zFr_g hF_s13 (zr (k := 27) (t2 := 84) hG ha rfl) (by decide)), (zFr_g hF_s2 (zr (k := 27) (t2 := 84) hG ha rfl) (by decide))])
              refine j_callV hx hG (c_X12_puts hst a v92 300 485) lk_RX12_417 ha (by decide) rfl rfl rfl rfl [.int (zI v92), .int (zI 300), .int (zI 485)] ⟨rfl, hG, hS_s35, ha, (by omega), (by omega), (by omega), (by omega)⟩ rfl rfl ⟨by decide, by decide⟩ ⟨by decide, by decide⟩ (k2 := 0) (n2 := 0) rfl rfl (Nat.le_of_ble_eq_true rfl) dX12_writes_78 (kIM (fun v96 s36 hS_s36 hF_s36 q97 => ?_))
              refine j_istore_n hx [(3, .int (zI v96)), (4, .int (zI 2)), (0, .ref a), (2, .int (zI (70 * x1)))] dX12_writes_81 (by decide) rfl ?_
              refine j_aload_n hx 2 dX12_writes_82 rfl ?_
              refine g13_48 hx hG ha kf_RX12_109 dX12_writes_83 ?_
              refine j_iload_n hx 3 dX12_writes_86 rfl ?_
              refine j_bipush hx dX12_writes_87 rfl ?_
              refine j_iadd hx (r := 70 * x1 + 60) dX12_writes_89 (by omega) ?_
              refine j_iload hx 1 dX12_writes_90 rfl ?_
              refine j_iadd hx (r := 70 * x1 + 62) dX12_writes_92 (by omega) ?_
              refine j_aload_n hx 2 dX12_writes_93 rfl ?_
              refine g13_27 hx hG ha kf_RX12_56 dX12_writes_94 ?_
              refine j_sipush hx dX12_writes_97 rfl ?_
              refine j_iload hx 1 dX12_writes_100 rfl ?_
              refine j_iadd hx (r := 482) dX12_writes_102 (by omega) ?_
              have f98 := zaQ (j := 482) hS0 (zr (k := 27) (t2 := 84) hG ha rfl) (congrArg some (axS_2 482 (by omega))) (zlen hG (zr (k := 27) (t2 := 84) hG ha rfl) (n := 515) rfl rfl) (show 0 ≤ 482 by omega) (by omega) rfl
              have c99 := zc_1 (j := 482) hS0 (zr (k := 27) (t2 := 84) hG ha rfl) (zn hG (zr (k := 27) (t2 := 84) hG ha rfl) rfl) (by omega) (by omega)
              have c100 : 480 ≠ 482 → s0 (gP G a 27) 480 + s0 (gP G a 27) 482 ≤ zc (s0 (gP G a 27)) := fun e => zc_2 hS0 (zr (k := 27) (t2 := 84) hG ha rfl) (zn hG (zr (k := 27) (t2 := 84) hG ha rfl) rfl) (by omega) (by omega) (by omega) (by omega) e
              have c101 : 483 ≠ 482 → s0 (gP G a 27) 483 + s0 (gP G a 27) 482 ≤ zc (s0 (gP G a 27)) := fun e => zc_2 hS0 (zr (k := 27) (t2 := 84) hG ha rfl) (zn hG (zr (k := 27) (t2 := 84) hG ha rfl) rfl) (by omega) (by omega) (by omega) (by omega) e
              have c102 : 481 ≠ 482 → s0 (gP G a 27) 481 + s0 (gP G a 27) 482 ≤ zc (s0 (gP G a 27)) := fun e => zc_2 hS0 (zr (k := 27) (t2 := 84) hG ha rfl) (zn hG (zr (k := 27) (t2 := 84) hG ha rfl) rfl) (by omega) (by omega) (by omega) (by omega) e
              have c103 : 484 ≠ 482 → s0 (gP G a 27) 484 + s0 (gP G a 27) 482 ≤ zc (s0 (gP G a 27)) := fun e => zc_2 hS0 (zr (k := 27) (t2 := 84) hG ha rfl) (zn hG (zr (k := 27) (t2 := 84) hG ha rfl) rfl) (by omega) (by omega) (by omega) (by omega) e
              refine j_iald hx hG (zr (k := 27) (t2 := 84) hG ha rfl) (by decide) rfl (zlen hG (zr (k := 27) (t2 := 84) hG ha rfl) (n := 515) rfl rfl) (by omega) (by omega) (j := 482) rfl (v := (s0 (gP G a 27) 482)) (by rw [(zFr_g hF_s36 (zr (k := 27) (t2 := 84) hG ha rfl) (by decide)), (zFr_g hF_s35 (zr (k := 27) (t2 := 84) hG ha rfl) (by decide)), e_s27, zU_at (Or.inl (zne (zr (k := 48) (t2 := 101) hG ha rfl) (zr (k := 27) (t2 := 84) hG ha rfl) (by decide))), e_s26, zU_at (Or.inl (zne (zr (k := 48) (t2 := 101) hG ha rfl) (zr (k := 27) (t2 := 84) hG ha rfl) (by decide))), (zFr_g hF_s25 (zr (k := 27) (t2 := 84) hG ha rfl) (by decide)), (zFr_g hF_s24 (zr (k := 27) (t2 := 84) hG ha rfl) (by decide)), e_s16, zU_at (Or.inl (zne (zr (k := 48) (t2 := 101) hG ha rfl) (zr (k := 27) (t2 := 84) hG ha rfl) (by decide))), e_s15, zU_at (Or.inl (zne (zr (k := 48) (t2 := 101) hG ha rfl) (zr (k := 27) (t2 := 84) hG ha rfl) (by decide))), (zFr_g hF_s14 (zr (k := 27) (t2 := 84) hG ha rfl) (by decide)), (zFr_g hF_s13 (zr (k := 27) (t2 := 84) hG ha rfl) (by decide)), (zFr_g hF_s2 (zr (k := 27) (t2 := 84) hG ha rfl) (by decide))]) dX12_writes_103 ?_
              refine j_iast hx hG (zr (k := 48) (t2 := 101) hG ha rfl) (by decide) rfl (zlen hG (zr (k := 48) (t2 := 101) hG ha rfl) (n := 210070) rfl rfl) (by omega) (by omega) (j := (70 * x1 + 62).toNat) rfl dX12_writes_104 ?_
              obtain ⟨s37, e_s37⟩ : ∃ z, z = zU s36 (gP G a 48) (70 * x1 + 62).toNat ((s0 (gP G a 27) 482)) := ⟨_, rfl⟩
              rw [← e_s37]
              have hS_s37 : zSK G s37 := by rw [e_s37]; exact zSK_A hS_s36 (zr (k := 48) (t2 := 101) hG ha rfl) rfl rfl rfl (by omega)
              refine j_aload_n hx 2 dX12_writes_105 rfl ?_
              refine g13_48 hx hG ha kf_RX12_109 dX12_writes_106 ?_
              refine j_iload_n hx 3 dX12_writes_109 rfl ?_
              refine j_bipush hx dX12_writes_110 rfl ?_
              refine j_iadd hx (r := 70 * x1 + 60) dX12_writes_112 (by omega) ?_
              refine j_iconst hx dX12_writes_113 ?_
              refine j_iadd hx (r := 70 * x1 + 63) dX12_writes_114 (by omega) ?_
              refine j_iload hx 1 dX12_writes_115 rfl ?_
              refine j_iadd hx (r := 70 * x1 + 65) dX12_writes_117 (by omega) ?_
              refine j_aload_n hx 2 dX12_writes_118 rfl ?_
              refine g13_27 hx hG ha kf_RX12_56 dX12_writes_119 ?_
              refine j_sipush hx dX12_writes_122 rfl ?_
              refine j_iload hx 1 dX12_writes_125 rfl ?_
              refine j_iadd hx (r := 485) dX12_writes_127 (by omega) ?_
              have f104 := zaQ (j := 485) hS0 (zr (k := 27) (t2 := 84) hG ha rfl) (congrArg some (axS_2 485 (by omega))) (zlen hG (zr (k := 27) (t2 := 84) hG ha rfl) (n := 515) rfl rfl) (show 0 ≤ 485 by omega) (by omega) rfl
              have c105 := zc_1 (j := 485) hS0 (zr (k := 27) (t2 := 84) hG ha rfl) (zn hG (zr (k := 27) (t2 := 84) hG ha rfl) rfl) (by omega) (by omega)
              have c106 : 480 ≠ 485 → s0 (gP G a 27) 480 + s0 (gP G a 27) 485 ≤ zc (s0 (gP G a 27)) := fun e => zc_2 hS0 (zr (k := 27) (t2 := 84) hG ha rfl) (zn hG (zr (k := 27) (t2 := 84) hG ha rfl) rfl) (by omega) (by omega) (by omega) (by omega) e
              have c107 : 483 ≠ 485 → s0 (gP G a 27) 483 + s0 (gP G a 27) 485 ≤ zc (s0 (gP G a 27)) := fun e => zc_2 hS0 (zr (k := 27) (t2 := 84) hG ha rfl) (zn hG (zr (k := 27) (t2 := 84) hG ha rfl) rfl) (by omega) (by omega) (by omega) (by omega) e
              have c108 : 481 ≠ 485 → s0 (gP G a 27) 481 + s0 (gP G a 27) 485 ≤ zc (s0 (gP G a 27)) := fun e => zc_2 hS0 (zr (k := 27) (t2 := 84) hG ha rfl) (zn hG (zr (k := 27) (t2 := 84) hG ha rfl) rfl) (by omega) (by omega) (by omega) (by omega) e
              have c109 : 484 ≠ 485 → s0 (gP G a 27) 484 + s0 (gP G a 27) 485 ≤ zc (s0 (gP G a 27)) := fun e => zc_2 hS0 (zr (k := 27) (t2 := 84) hG ha rfl) (zn hG (zr (k := 27) (t2 := 84) hG ha rfl) rfl) (by omega) (by omega) (by omega) (by omega) e
              have c110 : 482 ≠ 485 → s0 (gP G a 27) 482 + s0 (gP G a 27) 485 ≤ zc (s0 (gP G a 27)) := fun e => zc_2 hS0 (zr (k := 27) (t2 := 84) hG ha rfl) (zn hG (zr (k := 27) (t2 := 84) hG ha rfl) rfl) (by omega) (by omega) (by omega) (by omega) e
              refine j_iald hx hG (zr (k := 27) (t2 := 84) hG ha rfl) (by decide) rfl (zlen hG (zr (k := 27) (t2 := 84) hG ha rfl) (n := 515) rfl rfl) (by omega) (by omega) (j := 485) rfl (v := (s0 (gP G a 27) 485)) (by rw [e_s37, zU_at (Or.inl (zne (zr (k := 48) (t2 := 101) hG ha rfl) (zr (k := 27) (t2 := 84) hG ha rfl) (by decide))), (zFr_g hF_s36 (zr (k := 27) (t2 := 84) hG ha rfl) (by decide)), (zFr_g hF_s35 (zr (k := 27) (t2 := 84) hG ha rfl) (by decide)), e_s27, zU_at (Or.inl (zne (zr (k := 48) (t2 := 101) hG ha rfl) (zr (k := 27) (t2 := 84) hG ha rfl) (by decide))), e_s26, zU_at (Or.inl (zne (zr (k := 48) (t2 := 101) hG ha rfl) (zr (k := 27) (t2 := 84) hG ha rfl) (by decide))), (zFr_g hF_s25 (zr (k := 27) (t2 := 84) hG ha rfl) (by decide)), (zFr_g hF_s24 (zr (k := 27) (t2 := 84) hG ha rfl) (by decide)), e_s16, zU_at (Or.inl (zne (zr (k := 48) (t2 := 101) hG ha rfl) (zr (k := 27) (t2 := 84) hG ha rfl) (by decide))), e_s15, zU_at (Or.inl (zne (zr (k := 48) (t2 := 101) hG ha rfl) (zr (k := 27) (t2 := 84) hG ha rfl) (by decide))), (zFr_g hF_s14 (zr (k := 27) (t2 := 84) hG ha rfl) (by decide)), (zFr_g hF_s13 (zr (k := 27) (t2 := 84) hG ha rfl) (by decide)), (zFr_g hF_s2 (zr (k := 27) (t2 := 84) hG ha rfl) (by decide))]) dX12_writes_128 ?_
              refine j_iast hx hG (zr (k := 48) (t2 := 101) hG ha rfl) (by decide) rfl (zlen hG (zr (k := 48) (t2 := 101) hG ha rfl) (n := 210070) rfl rfl) (by omega) (by omega) (j := (70 * x1 + 65).toNat) rfl dX12_writes_129 ?_
              obtain ⟨s38, e_s38⟩ : ∃ z, z = zU s37 (gP G a 48) (70 * x1 + 65).toNat ((s0 (gP G a 27) 485)) := ⟨_, rfl⟩
              rw [← e_s38]
              have hS_s38 : zSK G s38 := by rw [e_s38]; exact zSK_A hS_s37 (zr (k := 48) (t2 := 101) hG ha rfl) rfl rfl rfl (by omega)
              refine j_iinc hx 1 [(4, .int (zI 3)), (3, .int (zI v96)), (0, .ref a), (2, .int (zI (70 * x1)))] dX12_writes_130 rfl (by omega) (by decide) rfl ?_
              refine j_goto hx 33 dX12_writes_133 rfl ?_
              refine j_iload hx 0 dX12_writes_33 rfl ?_
              refine j_aload_n hx 2 dX12_writes_35 rfl ?_
              refine g13_24 hx hG ha kf_RX12_189 (v := (s0 a 24)) (by rw [e_s38, zU_at (Or.inl (zne (zr (k := 48) (t2 := 101) hG ha rfl) ha (by decide))), e_s37, zU_at (Or.inl (zne (zr (k := 48) (t2 := 101) hG ha rfl) ha (by decide))), (zFr_g hF_s36 ha (by decide)), (zFr_g hF_s35 ha (by decide)), e_s27, zU_at (Or.inl (zne (zr (k := 48) (t2 := 101) hG ha rfl) ha (by decide))), e_s26, zU_at (Or.inl (zne (zr (k := 48) (t2 := 101) hG ha rfl) ha (by decide))), (zFr_g hF_s25 ha (by decide)), (zFr_g hF_s24 ha (by decide)), e_s16, zU_at (Or.inl (zne (zr (k := 48) (t2 := 101) hG ha rfl) ha (by decide))), e_s15, zU_at (Or.inl (zne (zr (k := 48) (t2 := 101) hG ha rfl) ha (by decide))), (zFr_g hF_s14 ha (by decide)), (zFr_g hF_s13 ha (by decide)), (zFr_g hF_s2 ha (by decide))]) dX12_writes_36 ?_
              refine j_icmp_ge hx 136 dX12_writes_39 rfl ⟨by decide, by decide⟩ (by omega) (fun h111 => ?_) (fun h111 => absurd h111 (by omega))
              refine j_aload_n hx 2 dX12_writes_136 rfl ?_
              refine j_iload_n hx 1 dX12_writes_137 rfl ?_
              refine j_sipush hx dX12_writes_138 rfl ?_
              refine j_sipush hx dX12_writes_141 rfl ?_
              have g112 : s38 (gP G a 27) (Int.toNat 486) = s38 (gP G a 27) 486 := rfl
              have g113 : s38 (gP G a 27) 486 = s0 (gP G a 27) 486 := (by rw [e_s38, zU_at (Or.inl (zne (zr (k := 48) (t2 := 101) hG ha rfl) (zr (k := 27) (t2 := 84) hG ha rfl) (by decide))), e_s37, zU_at (Or.inl (zne (zr (k := 48) (t2 := 101) hG ha rfl) (zr (k := 27) (t2 := 84) hG ha rfl) (by decide))), (zFr_g hF_s36 (zr (k := 27) (t2 := 84) hG ha rfl) (by decide)), (zFr_g hF_s35 (zr (k := 27) (t2 := 84) hG ha rfl) (by decide)), e_s27, zU_at (Or.inl (zne (zr (k := 48) (t2 := 101) hG ha rfl) (zr (k := 27) (t2 := 84) hG ha rfl) (by decide))), e_s26, zU_at (Or.inl (zne (zr (k := 48) (t2 := 101) hG ha rfl) (zr (k := 27) (t2 := 84) hG ha rfl) (by decide))), (zFr_g hF_s25 (zr (k := 27) (t2 := 84) hG ha rfl) (by decide)), (zFr_g hF_s24 (zr (k := 27) (t2 := 84) hG ha rfl) (by decide)), e_s16, zU_at (Or.inl (zne (zr (k := 48) (t2 := 101) hG ha rfl) (zr (k := 27) (t2 := 84) hG ha rfl) (by decide))), e_s15, zU_at (Or.inl (zne (zr (k := 48) (t2 := 101) hG ha rfl) (zr (k := 27) (t2 := 84) hG ha rfl) (by decide))), (zFr_g hF_s14 (zr (k := 27) (t2 := 84) hG ha rfl) (by decide)), (zFr_g hF_s13 (zr (k := 27) (t2 := 84) hG ha rfl) (by decide)), (zFr_g hF_s2 (zr (k := 27) (t2 := 84) hG ha rfl) (by decide))])
              refine j_callV hx hG (c_X12_puts hst a v96 360 486) lk_RX12_417 ha (by decide) rfl rfl rfl rfl [.int (zI v96), .int (zI 360), .int (zI 486)] ⟨rfl, hG, hS_s38, ha, (by omega), (by omega), (by omega), (by omega)⟩ rfl rfl ⟨by decide, by decide⟩ ⟨by decide, by decide⟩ (k2 := 0) (n2 := 0) rfl rfl (Nat.le_of_ble_eq_true rfl) dX12_writes_144 (kIM (fun v114 s39 hS_s39 hF_s39 q115 => ?_))
              refine j_pop hx dX12_writes_147 rfl ?_
              refine j_aload_n hx 2 dX12_writes_148 rfl ?_
              refine g13_48 hx hG ha kf_RX12_109 dX12_writes_149 ?_
              refine j_iload_n hx 3 dX12_writes_152 rfl ?_
              refine j_bipush hx dX12_writes_153 rfl ?_
              refine j_iadd hx (r := 70 * x1 + 60) dX12_writes_155 (by omega) ?_
              refine j_bipush hx dX12_writes_156 rfl ?_
              refine j_iadd hx (r := 70 * x1 + 66) dX12_writes_158 (by omega) ?_
              refine j_aload_n hx 2 dX12_writes_159 rfl ?_
              refine g13_27 hx hG ha kf_RX12_56 dX12_writes_160 ?_
              refine j_sipush hx dX12_writes_163 rfl ?_
              have f116 := zaQ (j := 486) hS0 (zr (k := 27) (t2 := 84) hG ha rfl) (congrArg some (axS_2 486 (by omega))) (zlen hG (zr (k := 27) (t2 := 84) hG ha rfl) (n := 515) rfl rfl) (show 0 ≤ 486 by omega) (by omega) rfl
              have c117 := zc_1 (j := 486) hS0 (zr (k := 27) (t2 := 84) hG ha rfl) (zn hG (zr (k := 27) (t2 := 84) hG ha rfl) rfl) (by omega) (by omega)
              have c118 : 480 ≠ 486 → s0 (gP G a 27) 480 + s0 (gP G a 27) 486 ≤ zc (s0 (gP G a 27)) := fun e => zc_2 hS0 (zr (k := 27) (t2 := 84) hG ha rfl) (zn hG (zr (k := 27) (t2 := 84) hG ha rfl) rfl) (by omega) (by omega) (by omega) (by omega) e
              have c119 : 483 ≠ 486 → s0 (gP G a 27) 483 + s0 (gP G a 27) 486 ≤ zc (s0 (gP G a 27)) := fun e => zc_2 hS0 (zr (k := 27) (t2 := 84) hG ha rfl) (zn hG (zr (k := 27) (t2 := 84) hG ha rfl) rfl) (by omega) (by omega) (by omega) (by omega) e
              have c120 : 481 ≠ 486 → s0 (gP G a 27) 481 + s0 (gP G a 27) 486 ≤ zc (s0 (gP G a 27)) := fun e => zc_2 hS0 (zr (k := 27) (t2 := 84) hG ha rfl) (zn hG (zr (k := 27) (t2 := 84) hG ha rfl) rfl) (by omega) (by omega) (by omega) (by omega) e
              have c121 : 484 ≠ 486 → s0 (gP G a 27) 484 + s0 (gP G a 27) 486 ≤ zc (s0 (gP G a 27)) := fun e => zc_2 hS0 (zr (k := 27) (t2 := 84) hG ha rfl) (zn hG (zr (k := 27) (t2 := 84) hG ha rfl) rfl) (by omega) (by omega) (by omega) (by omega) e
              have c122 : 482 ≠ 486 → s0 (gP G a 27) 482 + s0 (gP G a 27) 486 ≤ zc (s0 (gP G a 27)) := fun e => zc_2 hS0 (zr (k := 27) (t2 := 84) hG ha rfl) (zn hG (zr (k := 27) (t2 := 84) hG ha rfl) rfl) (by omega) (by omega) (by omega) (by omega) e
              have c123 : 485 ≠ 486 → s0 (gP G a 27) 485 + s0 (gP G a 27) 486 ≤ zc (s0 (gP G a 27)) := fun e => zc_2 hS0 (zr (k := 27) (t2 := 84) hG ha rfl) (zn hG (zr (k := 27) (t2 := 84) hG ha rfl) rfl) (by omega) (by omega) (by omega) (by omega) e
              refine j_iald hx hG (zr (k := 27) (t2 := 84) hG ha rfl) (by decide) rfl (zlen hG (zr (k := 27) (t2 := 84) hG ha rfl) (n := 515) rfl rfl) (by omega) (by omega) (j := 486) rfl (v := (s0 (gP G a 27) 486)) (by rw [(zFr_g hF_s39 (zr (k := 27) (t2 := 84) hG ha rfl) (by decide)), e_s38, zU_at (Or.inl (zne (zr (k := 48) (t2 := 101) hG ha rfl) (zr (k := 27) (t2 := 84) hG ha rfl) (by decide))), e_s37, zU_at (Or.inl (zne (zr (k := 48) (t2 := 101) hG ha rfl) (zr (k := 27) (t2 := 84) hG ha rfl) (by decide))), (zFr_g hF_s36 (zr (k := 27) (t2 := 84) hG ha rfl) (by decide)), (zFr_g hF_s35 (zr (k := 27) (t2 := 84) hG ha rfl) (by decide)), e_s27, zU_at (Or.inl (zne (zr (k := 48) (t2 := 101) hG ha rfl) (zr (k := 27) (t2 := 84) hG ha rfl) (by decide))), e_s26, zU_at (Or.inl (zne (zr (k := 48) (t2 := 101) hG ha rfl) (zr (k := 27) (t2 := 84) hG ha rfl) (by decide))), (zFr_g hF_s25 (zr (k := 27) (t2 := 84) hG ha rfl) (by decide)), (zFr_g hF_s24 (zr (k := 27) (t2 := 84) hG ha rfl) (by decide)), e_s16, zU_at (Or.inl (zne (zr (k := 48) (t2 := 101) hG ha rfl) (zr (k := 27) (t2 := 84) hG ha rfl) (by decide))), e_s15, zU_at (Or.inl (zne (zr (k := 48) (t2 := 101) hG ha rfl) (zr (k := 27) (t2 := 84) hG ha rfl) (by decide))), (zFr_g hF_s14 (zr (k := 27) (t2 := 84) hG ha rfl) (by decide)), (zFr_g hF_s13 (zr (k := 27) (t2 := 84) hG ha rfl) (by decide)), (zFr_g hF_s2 (zr (k := 27) (t2 := 84) hG ha rfl) (by decide))]) dX12_writes_166 ?_
              refine j_iast hx hG (zr (k := 48) (t2 := 101) hG ha rfl) (by decide) rfl (zlen hG (zr (k := 48) (t2 := 101) hG ha rfl) (n := 210070) rfl rfl) (by omega) (by omega) (j := (70 * x1 + 66).toNat) rfl dX12_writes_167 ?_
              obtain ⟨s40, e_s40⟩ : ∃ z, z = zU s39 (gP G a 48) (70 * x1 + 66).toNat ((s0 (gP G a 27) 486)) := ⟨_, rfl⟩
              rw [← e_s40]
              have hS_s40 : zSK G s40 := by rw [e_s40]; exact zSK_A hS_s39 (zr (k := 48) (t2 := 101) hG ha rfl) rfl rfl rfl (by omega)
              refine j_aload_n hx 2 dX12_writes_168 rfl ?_
              refine g13_48 hx hG ha kf_RX12_109 dX12_writes_169 ?_
              refine j_iload_n hx 3 dX12_writes_172 rfl ?_
              refine j_bipush hx dX12_writes_173 rfl ?_
              refine j_iadd hx (r := 70 * x1 + 60) dX12_writes_175 (by omega) ?_
              refine j_bipush hx dX12_writes_176 rfl ?_
              refine j_iadd hx (r := 70 * x1 + 67) dX12_writes_178 (by omega) ?_
              refine j_aload_n hx 2 dX12_writes_179 rfl ?_
              refine j_callV hx hG (c_X12_whose hst a) lk_RX12_336 ha (by decide) rfl rfl rfl rfl [] ⟨rfl, hG, hS_s40, ha⟩ rfl rfl ⟨by decide, by decide⟩ ⟨by decide, by decide⟩ (k2 := 0) (n2 := 0) rfl rfl (Nat.le_of_ble_eq_true rfl) dX12_writes_180 (kIP (fun v124 q125 => ?_))
              refine j_iast hx hG (zr (k := 48) (t2 := 101) hG ha rfl) (by decide) rfl (zlen hG (zr (k := 48) (t2 := 101) hG ha rfl) (n := 210070) rfl rfl) (by omega) (by omega) (j := (70 * x1 + 67).toNat) rfl dX12_writes_183 ?_
              obtain ⟨s41, e_s41⟩ : ∃ z, z = zU s40 (gP G a 48) (70 * x1 + 67).toNat v124 := ⟨_, rfl⟩
              rw [← e_s41]
              have hS_s41 : zSK G s41 := by rw [e_s41]; exact zSK_A hS_s40 (zr (k := 48) (t2 := 101) hG ha rfl) rfl rfl rfl (by omega)
              refine j_aload_n hx 2 dX12_writes_184 rfl ?_
              refine g13_48 hx hG ha kf_RX12_109 dX12_writes_185 ?_
              refine j_iload_n hx 3 dX12_writes_188 rfl ?_
              refine j_bipush hx dX12_writes_189 rfl ?_
              refine j_iadd hx (r := 70 * x1 + 60) dX12_writes_191 (by omega) ?_
              refine j_bipush hx dX12_writes_192 rfl ?_
              refine j_iadd hx (r := 70 * x1 + 68) dX12_writes_194 (by omega) ?_
              refine j_aload_n hx 2 dX12_writes_195 rfl ?_
              refine g13_27 hx hG ha kf_RX12_56 dX12_writes_196 ?_
              refine j_sipush hx dX12_writes_199 rfl ?_
              have f126 := zaQ (j := 490) hS0 (zr (k := 27) (t2 := 84) hG ha rfl) (congrArg some (axS_6 490 (by omega))) (zlen hG (zr (k := 27) (t2 := 84) hG ha rfl) (n := 515) rfl rfl) (show 0 ≤ 490 by omega) (by omega) rfl
              refine j_iald hx hG (zr (k := 27) (t2 := 84) hG ha rfl) (by decide) rfl (zlen hG (zr (k := 27) (t2 := 84) hG ha rfl) (n := 515) rfl rfl) (by omega) (by omega) (j := 490) rfl (v := (s0 (gP G a 27) 490)) (by rw [e_s41, zU_at (Or.inl (zne (zr (k := 48) (t2 := 101) hG ha rfl) (zr (k := 27) (t2 := 84) hG ha rfl) (by decide))), e_s40, zU_at (Or.inl (zne (zr (k := 48) (t2 := 101) hG ha rfl) (zr (k := 27) (t2 := 84) hG ha rfl) (by decide))), (zFr_g hF_s39 (zr (k := 27) (t2 := 84) hG ha rfl) (by decide)), e_s38, zU_at (Or.inl (zne (zr (k := 48) (t2 := 101) hG ha rfl) (zr (k := 27) (t2 := 84) hG ha rfl) (by decide))), e_s37, zU_at (Or.inl (zne (zr (k := 48) (t2 := 101) hG ha rfl) (zr (k := 27) (t2 := 84) hG ha rfl) (by decide))), (zFr_g hF_s36 (zr (k := 27) (t2 := 84) hG ha rfl) (by decide)), (zFr_g hF_s35 (zr (k := 27) (t2 := 84) hG ha rfl) (by decide)), e_s27, zU_at (Or.inl (zne (zr (k := 48) (t2 := 101) hG ha rfl) (zr (k := 27) (t2 := 84) hG ha rfl) (by decide))), e_s26, zU_at (Or.inl (zne (zr (k := 48) (t2 := 101) hG ha rfl) (zr (k := 27) (t2 := 84) hG ha rfl) (by decide))), (zFr_g hF_s25 (zr (k := 27) (t2 := 84) hG ha rfl) (by decide)), (zFr_g hF_s24 (zr (k := 27) (t2 := 84) hG ha rfl) (by decide)), e_s16, zU_at (Or.inl (zne (zr (k := 48) (t2 := 101) hG ha rfl) (zr (k := 27) (t2 := 84) hG ha rfl) (by decide))), e_s15, zU_at (Or.inl (zne (zr (k := 48) (t2 := 101) hG ha rfl) (zr (k := 27) (t2 := 84) hG ha rfl) (by decide))), (zFr_g hF_s14 (zr (k := 27) (t2 := 84) hG ha rfl) (by decide)), (zFr_g hF_s13 (zr (k := 27) (t2 := 84) hG ha rfl) (by decide)), (zFr_g hF_s2 (zr (k := 27) (t2 := 84) hG ha rfl) (by decide))]) dX12_writes_202 ?_
              refine j_iconst hx dX12_writes_203 ?_
              have c219_42 : ∀ (v127 : Int), ((-2147483648) ≤ v127 ∧ v127 ≤ 2147483647) → JJ X E 5 G s41 0 0 [(0, .ref a), (2, .int (zI (70 * x1)))] 219 [.int (zI v127), .int (zI (70 * x1 + 68)), .ref (gP G a 48)] := by
                intro v127 fA43
                refine j_iast hx hG (zr (k := 48) (t2 := 101) hG ha rfl) (by decide) rfl (zlen hG (zr (k := 48) (t2 := 101) hG ha rfl) (n := 210070) rfl rfl) (by omega) (by omega) (j := (70 * x1 + 68).toNat) rfl dX12_writes_219 ?_
                obtain ⟨s44, e_s44⟩ : ∃ z, z = zU s41 (gP G a 48) (70 * x1 + 68).toNat v127 := ⟨_, rfl⟩
                rw [← e_s44]
                have hS_s44 : zSK G s44 := by rw [e_s44]; exact zSK_A hS_s41 (zr (k := 48) (t2 := 101) hG ha rfl) rfl rfl rfl (by omega)
                refine j_aload_n hx 0 dX12_writes_220 rfl ?_
                refine g13_48 hx hG ha kf_RX12_109 dX12_writes_221 ?_
                refine j_iload_n hx 1 dX12_writes_224 rfl ?_
                refine j_bipush hx dX12_writes_225 rfl ?_
                refine j_iadd hx (r := 70 * x1 + 60) dX12_writes_227 (by omega) ?_
                refine j_bipush hx dX12_writes_228 rfl ?_
                refine j_iadd hx (r := 70 * x1 + 69) dX12_writes_230 (by omega) ?_
                refine j_aload_n hx 0 dX12_writes_231 rfl ?_
                refine g13_27 hx hG ha kf_RX12_56 dX12_writes_232 ?_
                refine j_sipush hx dX12_writes_235 rfl ?_
                have f128 := zaQ (j := 488) hS0 (zr (k := 27) (t2 := 84) hG ha rfl) (congrArg some (axS_4 488 (by omega))) (zlen hG (zr (k := 27) (t2 := 84) hG ha rfl) (n := 515) rfl rfl) (show 0 ≤ 488 by omega) (by omega) rfl
                refine j_iald hx hG (zr (k := 27) (t2 := 84) hG ha rfl) (by decide) rfl (zlen hG (zr (k := 27) (t2 := 84) hG ha rfl) (n := 515) rfl rfl) (by omega) (by omega) (j := 488) rfl (v := (s0 (gP G a 27) 488)) (by rw [e_s44, zU_at (Or.inl (zne (zr (k := 48) (t2 := 101) hG ha rfl) (zr (k := 27) (t2 := 84) hG ha rfl) (by decide))), e_s41, zU_at (Or.inl (zne (zr (k := 48) (t2 := 101) hG ha rfl) (zr (k := 27) (t2 := 84) hG ha rfl) (by decide))), e_s40, zU_at (Or.inl (zne (zr (k := 48) (t2 := 101) hG ha rfl) (zr (k := 27) (t2 := 84) hG ha rfl) (by decide))), (zFr_g hF_s39 (zr (k := 27) (t2 := 84) hG ha rfl) (by decide)), e_s38, zU_at (Or.inl (zne (zr (k := 48) (t2 := 101) hG ha rfl) (zr (k := 27) (t2 := 84) hG ha rfl) (by decide))), e_s37, zU_at (Or.inl (zne (zr (k := 48) (t2 := 101) hG ha rfl) (zr (k := 27) (t2 := 84) hG ha rfl) (by decide))), (zFr_g hF_s36 (zr (k := 27) (t2 := 84) hG ha rfl) (by decide)), (zFr_g hF_s35 (zr (k := 27) (t2 := 84) hG ha rfl) (by decide)), e_s27, zU_at (Or.inl (zne (zr (k := 48) (t2 := 101) hG ha rfl) (zr (k := 27) (t2 := 84) hG ha rfl) (by decide))), e_s26, zU_at (Or.inl (zne (zr (k := 48) (t2 := 101) hG ha rfl) (zr (k := 27) (t2 := 84) hG ha rfl) (by decide))), (zFr_g hF_s25 (zr (k := 27) (t2 := 84) hG ha rfl) (by decide)), (zFr_g hF_s24 (zr (k := 27) (t2 := 84) hG ha rfl) (by decide)), e_s16, zU_at (Or.inl (zne (zr (k := 48) (t2 := 101) hG ha rfl) (zr (k := 27) (t2 := 84) hG ha rfl) (by decide))), e_s15, zU_at (Or.inl (zne (zr (k := 48) (t2 := 101) hG ha rfl) (zr (k := 27) (t2 := 84) hG ha rfl) (by decide))), (zFr_g hF_s14 (zr (k := 27) (t2 := 84) hG ha rfl) (by decide)), (zFr_g hF_s13 (zr (k := 27) (t2 := 84) hG ha rfl) (by decide)), (zFr_g hF_s2 (zr (k := 27) (t2 := 84) hG ha rfl) (by decide))]) dX12_writes_238 ?_
                refine j_iast hx hG (zr (k := 48) (t2 := 101) hG ha rfl) (by decide) rfl (zlen hG (zr (k := 48) (t2 := 101) hG ha rfl) (n := 210070) rfl rfl) (by omega) (by omega) (j := (70 * x1 + 69).toNat) rfl dX12_writes_239 ?_
                obtain ⟨s45, e_s45⟩ : ∃ z, z = zU s44 (gP G a 48) (70 * x1 + 69).toNat ((s0 (gP G a 27) 488)) := ⟨_, rfl⟩
                rw [← e_s45]
                have hS_s45 : zSK G s45 := by rw [e_s45]; exact zSK_A hS_s44 (zr (k := 48) (t2 := 101) hG ha rfl) rfl rfl rfl (by omega)
                exact j_vret hx hq rfl (by decide) (by decide) dX12_writes_240 ⟨rfl, rfl, hS_s45, (zFr_u (zFr_u (zFr_u (zFr_u (zFr_t (zFr_u (zFr_u (zFr_t (zFr_t (zFr_u (zFr_u (zFr_t (zFr_t (zFr_u (zFr_u (zFr_t (zFr_t (zFr_t zFr_rf hF_s2 (by decide)) hF_s13 (by decide)) hF_s14 (by decide)) e_s15 (zr (k := 48) (t2 := 101) hG ha rfl) (by decide)) e_s16 (zr (k := 48) (t2 := 101) hG ha rfl) (by decide)) hF_s24 (by decide)) hF_s25 (by decide)) e_s26 (zr (k := 48) (t2 := 101) hG ha rfl) (by decide)) e_s27 (zr (k := 48) (t2 := 101) hG ha rfl) (by decide)) hF_s35 (by decide)) hF_s36 (by decide)) e_s37 (zr (k := 48) (t2 := 101) hG ha rfl) (by decide)) e_s38 (zr (k := 48) (t2 := 101) hG ha rfl) (by decide)) hF_s39 (by decide)) e_s40 (zr (k := 48) (t2 := 101) hG ha rfl) (by decide)) e_s41 (zr (k := 48) (t2 := 101) hG ha rfl) (by decide)) e_s44 (zr (k := 48) (t2 := 101) hG ha rfl) (by decide)) e_s45 (zr (k := 48) (t2 := 101) hG ha rfl) (by decide)), trivial⟩
              refine j_icmp_ne hx 218 dX12_writes_204 rfl (by omega) ⟨by decide, by decide⟩ (fun h129 => ?_) (fun h129 => ?_)
              · skip
                refine j_iconst hx dX12_writes_218 ?_
                exact j_sub [2, 3] [(0, .ref a), (2, .int (zI (70 * x1)))] rfl (c219_42 0 (by omega))
              · skip
                refine j_aload_n hx 2 dX12_writes_207 rfl ?_
                refine g13_27 hx hG ha kf_RX12_56 dX12_writes_208 ?_
                refine j_sipush hx dX12_writes_211 rfl ?_
                have f130 := zaQ (j := 489) hS0 (zr (k := 27) (t2 := 84) hG ha rfl) (congrArg some (axS_5 489 (by omega))) (zlen hG (zr (k := 27) (t2 := 84) hG ha rfl) (n := 515) rfl rfl) (show 0 ≤ 489 by omega) (by omega) rfl
                refine j_iald hx hG (zr (k := 27) (t2 := 84) hG ha rfl) (by decide) rfl (zlen hG (zr (k := 27) (t2 := 84) hG ha rfl) (n := 515) rfl rfl) (by omega) (by omega) (j := 489) rfl (v := (s0 (gP G a 27) 489)) (by rw [e_s41, zU_at (Or.inl (zne (zr (k := 48) (t2 := 101) hG ha rfl) (zr (k := 27) (t2 := 84) hG ha rfl) (by decide))), e_s40, zU_at (Or.inl (zne (zr (k := 48) (t2 := 101) hG ha rfl) (zr (k := 27) (t2 := 84) hG ha rfl) (by decide))), (zFr_g hF_s39 (zr (k := 27) (t2 := 84) hG ha rfl) (by decide)), e_s38, zU_at (Or.inl (zne (zr (k := 48) (t2 := 101) hG ha rfl) (zr (k := 27) (t2 := 84) hG ha rfl) (by decide))), e_s37, zU_at (Or.inl (zne (zr (k := 48) (t2 := 101) hG ha rfl) (zr (k := 27) (t2 := 84) hG ha rfl) (by decide))), (zFr_g hF_s36 (zr (k := 27) (t2 := 84) hG ha rfl) (by decide)), (zFr_g hF_s35 (zr (k := 27) (t2 := 84) hG ha rfl) (by decide)), e_s27, zU_at (Or.inl (zne (zr (k := 48) (t2 := 101) hG ha rfl) (zr (k := 27) (t2 := 84) hG ha rfl) (by decide))), e_s26, zU_at (Or.inl (zne (zr (k := 48) (t2 := 101) hG ha rfl) (zr (k := 27) (t2 := 84) hG ha rfl) (by decide))), (zFr_g hF_s25 (zr (k := 27) (t2 := 84) hG ha rfl) (by decide)), (zFr_g hF_s24 (zr (k := 27) (t2 := 84) hG ha rfl) (by decide)), e_s16, zU_at (Or.inl (zne (zr (k := 48) (t2 := 101) hG ha rfl) (zr (k := 27) (t2 := 84) hG ha rfl) (by decide))), e_s15, zU_at (Or.inl (zne (zr (k := 48) (t2 := 101) hG ha rfl) (zr (k := 27) (t2 := 84) hG ha rfl) (by decide))), (zFr_g hF_s14 (zr (k := 27) (t2 := 84) hG ha rfl) (by decide)), (zFr_g hF_s13 (zr (k := 27) (t2 := 84) hG ha rfl) (by decide)), (zFr_g hF_s2 (zr (k := 27) (t2 := 84) hG ha rfl) (by decide))]) dX12_writes_214 ?_
                refine j_goto hx 219 dX12_writes_215 rfl ?_
                exact j_sub [2, 3] [(0, .ref a), (2, .int (zI (70 * x1)))] rfl (c219_42 ((s0 (gP G a 27) 489)) (by omega))
      · skip
        refine j_aload_n hx 0 dX12_writes_13 rfl ?_
        refine g13_48 hx hG ha kf_RX12_109 dX12_writes_14 ?_
        refine j_iload_n hx 1 dX12_writes_17 rfl ?_
        refine j_iload_n hx 2 dX12_writes_18 rfl ?_
        refine j_iadd hx (r := 70 * x1 + v9) dX12_writes_19 (by omega) ?_
        refine j_iconst hx dX12_writes_20 ?_
        refine j_iast hx hG (zr (k := 48) (t2 := 101) hG ha rfl) (by decide) rfl (zlen hG (zr (k := 48) (t2 := 101) hG ha rfl) (n := 210070) rfl rfl) (by omega) (by omega) (j := (70 * x1 + v9).toNat) rfl dX12_writes_21 ?_
        obtain ⟨s46, e_s46⟩ : ∃ z, z = zU s2 (gP G a 48) (70 * x1 + v9).toNat (-1) := ⟨_, rfl⟩
        rw [← e_s46]
        have hS_s46 : zSK G s46 := by rw [e_s46]; exact zSK_A hS_s2 (zr (k := 48) (t2 := 101) hG ha rfl) rfl rfl rfl (by omega)
        refine j_iinc hx 2 [(3, .int (zI (v9 + 1))), (0, .ref a), (2, .int (zI (70 * x1)))] dX12_writes_22 rfl (by omega) (by decide) rfl ?_
        refine j_goto hx 7 dX12_writes_25 rfl ?_
        exact j_sub [1, 2, 0] [(0, .ref a), (2, .int (zI (70 * x1))), (3, .int (zI (v9 + 1)))] rfl (ih_c7_1 (v9 + 1) s46 (by omega) (by omega) hS_s46 (zFr_u (zFr_t zFr_rf hF_s2 (by decide)) e_s46 (zr (k := 48) (t2 := 101) hG ha rfl) (by decide)))
  exact j_sub [2, 1, 0] [(0, .ref a), (2, .int (zI (70 * x1))), (3, .int (zI 0))] rfl (c7_1 (2147483648 * 4) 0 s0 (by omega) (by omega) hS0 zFr_rf)

set_option maxHeartbeats 1200000 in
set_option maxRecDepth 20000 in
theorem c_X12_leaveSame {E : zE} {l : Launch} (hst : l.stackTraces = false) (a : Nat) (x1 : Int) (x2 : Int) : Con E l yX12_leaveSame cX12_leaveSame 5 (some .boolean) { frames := 0, cells := 0, slots := 0, locals := 0 } (fun G s vs => vs = [.ref a, .int (zI x1), .int (zI x2)] ∧ zGK G ∧ zSK G s ∧ (gT G a = 13) ∧ ((-2147483648) ≤ x1 ∧ x1 ≤ 2147483647) ∧ ((-2147483648) ≤ x2 ∧ x2 ≤ 2147483647) ∧ (zRva (s (gP G a 34)) (s (gP G a 35)) (s (gP G a 37)))) (fun G s _ => pI (fun r G2 s2 => G2 = G ∧ s2 = s ∧ (0 ≤ r ∧ r ≤ 1))) := by
  refine Con.mk hst (by decide) (fun G s vs h => by rw [h.1]; exact Nat.le_of_ble_eq_true rfl) ?_
  rintro X G s0 vs ⟨rfl, hG, hS0, ha, hx1, hx2, e0⟩ rfl hx hq
  show JJ X E 5 G s0 0 0 [(0, .ref a), (1, .int (zI x1)), (2, .int (zI x2))] 0 []
  refine j_iconst hx dX12_leaveSame_0 ?_
  refine j_istore_n hx [(3, .int (zI 0)), (0, .ref a), (1, .int (zI x1)), (2, .int (zI x2))] dX12_leaveSame_1 (by decide) rfl ?_
  have c2_1 : ∀ (m_c2_1 : Nat) (v1 : Int), 2147483648 - v1 < m_c2_1 → (0 ≤ v1 ∧ v1 ≤ 6) → JJ X E 5 G s0 0 0 [(0, .ref a), (1, .int (zI x1)), (2, .int (zI x2)), (3, .int (zI v1))] 2 [] := by
    intro m_c2_1
    induction m_c2_1 with
    | zero => intro v1 hm_c2_1 fA2; exfalso; omega
    | succ m_c2_1 ih_c2_1 => 
      intro v1 hm_c2_1 fA2
      refine j_iload_n hx 3 dX12_leaveSame_2 rfl ?_
      refine j_bipush hx dX12_leaveSame_3 rfl ?_
      refine j_icmp_ge hx 79 dX12_leaveSame_5 rfl (by omega) ⟨by decide, by decide⟩ (fun h2 => ?_) (fun h2 => ?_)
      · skip
        refine j_iconst hx dX12_leaveSame_79 ?_
        exact j_zret hx hq rfl (by decide) (by decide) dX12_leaveSame_80 (by omega) ⟨1, rfl, rfl, rfl, (by omega)⟩
      · skip
        have hRV2 := e0 v1 (by omega) (by omega)
        refine j_sipush hx dX12_leaveSame_8 rfl ?_
        refine j_iload_n hx 3 dX12_leaveSame_11 rfl ?_
        refine j_imul hx (r := 150 * v1) dX12_leaveSame_12 rfl ?_
        refine j_istore hx [(4, .int (zI (150 * v1))), (0, .ref a), (1, .int (zI x1)), (2, .int (zI x2)), (3, .int (zI v1))] dX12_leaveSame_13 (by decide) rfl ?_
        have c15_3 : ∀ (m_c15_3 : Nat) (v4 : Int), 2147483648 - v4 < m_c15_3 → (0 ≤ v4 ∧ v4 ≤ 900) → (150 * v1 ≤ v4) → JJ X E 5 G s0 0 0 [(0, .ref a), (1, .int (zI x1)), (2, .int (zI x2)), (3, .int (zI v1)), (4, .int (zI v4))] 15 [] := by
          intro m_c15_3
          induction m_c15_3 with
          | zero => intro v4 hm_c15_3 fA4 fA5; exfalso; omega
          | succ m_c15_3 ih_c15_3 => 
            intro v4 hm_c15_3 fA4 fA5
            refine j_iload hx 4 dX12_leaveSame_15 rfl ?_
            refine j_sipush hx dX12_leaveSame_17 rfl ?_
            refine j_iload_n hx 3 dX12_leaveSame_20 rfl ?_
            refine j_imul hx (r := 150 * v1) dX12_leaveSame_21 rfl ?_
            refine j_aload_n hx 0 dX12_leaveSame_22 rfl ?_
            refine g13_37 hx hG ha kf_RX12_86 dX12_leaveSame_23 ?_
            refine j_iload_n hx 3 dX12_leaveSame_26 rfl ?_
            have f5 := zaI (j := (v1).toNat) hS0 (zr (k := 37) (t2 := 94) hG ha rfl) rfl (zlen hG (zr (k := 37) (t2 := 94) hG ha rfl) (n := 6) rfl rfl) (show 0 ≤ v1 by omega) (by omega) rfl
            refine j_iald hx hG (zr (k := 37) (t2 := 94) hG ha rfl) (by decide) rfl (zlen hG (zr (k := 37) (t2 := 94) hG ha rfl) (n := 6) rfl rfl) (by omega) (by omega) (j := (v1).toNat) rfl rfl dX12_leaveSame_27 ?_
            refine j_iadd hx (r := 150 * v1 + (s0 (gP G a 37) (v1).toNat)) dX12_leaveSame_28 (by omega) ?_
            refine j_icmp_ge hx 73 dX12_leaveSame_29 rfl (by omega) (by omega) (fun h6 => ?_) (fun h6 => ?_)
            · skip
              refine j_iinc hx 3 [(3, .int (zI (v1 + 1))), (0, .ref a), (1, .int (zI x1)), (2, .int (zI x2)), (4, .int (zI v4))] dX12_leaveSame_73 rfl (by omega) (by decide) rfl ?_
              refine j_goto hx 2 dX12_leaveSame_76 rfl ?_
              exact j_sub [1, 2, 3, 0] [(0, .ref a), (1, .int (zI x1)), (2, .int (zI x2)), (3, .int (zI (v1 + 1)))] rfl (ih_c2_1 (v1 + 1) (by omega) (by omega))
            · skip
              have z7 := zRv_at hRV2 (q := v4) (by omega) (by omega)
              refine j_aload_n hx 0 dX12_leaveSame_32 rfl ?_
              refine g13_34 hx hG ha kf_RX12_77 dX12_leaveSame_33 ?_
              refine j_iload hx 4 dX12_leaveSame_36 rfl ?_
              have f8 := zaI (j := (v4).toNat) hS0 (zr (k := 34) (t2 := 91) hG ha rfl) rfl (zlen hG (zr (k := 34) (t2 := 91) hG ha rfl) (n := 900) rfl rfl) (show 0 ≤ v4 by omega) (by omega) rfl
              refine j_iald hx hG (zr (k := 34) (t2 := 91) hG ha rfl) (by decide) rfl (zlen hG (zr (k := 34) (t2 := 91) hG ha rfl) (n := 900) rfl rfl) (by omega) (by omega) (j := (v4).toNat) rfl rfl dX12_leaveSame_38 ?_
              refine j_bipush hx dX12_leaveSame_39 rfl ?_
              have c67_6 : JJ X E 5 G s0 0 0 [(0, .ref a), (1, .int (zI x1)), (2, .int (zI x2)), (3, .int (zI v1)), (4, .int (zI v4))] 67 [] := by
                refine j_iinc hx 4 [(4, .int (zI (v4 + 1))), (0, .ref a), (1, .int (zI x1)), (2, .int (zI x2)), (3, .int (zI v1))] dX12_leaveSame_67 rfl (by omega) (by decide) rfl ?_
                refine j_goto hx 15 dX12_leaveSame_70 rfl ?_
                exact j_sub [1, 2, 3, 4, 0] [(0, .ref a), (1, .int (zI x1)), (2, .int (zI x2)), (3, .int (zI v1)), (4, .int (zI (v4 + 1)))] rfl (ih_c15_3 (v4 + 1) (by omega) (by omega) (by omega))
              refine j_icmp_ne hx 67 dX12_leaveSame_41 rfl (by omega) ⟨by decide, by decide⟩ (fun h9 => ?_) (fun h9 => ?_)
              · skip
                exact j_sub [0, 1, 2, 3, 4] [(0, .ref a), (1, .int (zI x1)), (2, .int (zI x2)), (3, .int (zI v1)), (4, .int (zI v4))] rfl (c67_6  )
              · skip
                refine j_iload_n hx 1 dX12_leaveSame_44 rfl ?_
                refine j_aload_n hx 0 dX12_leaveSame_45 rfl ?_
                refine g13_35 hx hG ha kf_RX12_80 dX12_leaveSame_46 ?_
                refine j_iload hx 4 dX12_leaveSame_49 rfl ?_
                have f10 := zaI (j := (v4).toNat) hS0 (zr (k := 35) (t2 := 92) hG ha rfl) rfl (zlen hG (zr (k := 35) (t2 := 92) hG ha rfl) (n := 900) rfl rfl) (show 0 ≤ v4 by omega) (by omega) rfl
                refine j_iald hx hG (zr (k := 35) (t2 := 92) hG ha rfl) (by decide) rfl (zlen hG (zr (k := 35) (t2 := 92) hG ha rfl) (n := 900) rfl rfl) (by omega) (by omega) (j := (v4).toNat) rfl rfl dX12_leaveSame_51 ?_
                refine j_irem hx dX12_leaveSame_52 (by omega) (by omega) (by omega) (fun v11 f12 f13 f14 f15 => ?_)
                refine j_iload_n hx 2 dX12_leaveSame_53 rfl ?_
                refine j_aload_n hx 0 dX12_leaveSame_54 rfl ?_
                refine g13_35 hx hG ha kf_RX12_80 dX12_leaveSame_55 ?_
                refine j_iload hx 4 dX12_leaveSame_58 rfl ?_
                refine j_iald hx hG (zr (k := 35) (t2 := 92) hG ha rfl) (by decide) rfl (zlen hG (zr (k := 35) (t2 := 92) hG ha rfl) (n := 900) rfl rfl) (by omega) (by omega) (j := (v4).toNat) rfl rfl dX12_leaveSame_60 ?_
                refine j_irem hx dX12_leaveSame_61 (by omega) (by omega) (by omega) (fun v17 f18 f19 f20 f21 => ?_)
                refine j_icmp_eq hx 67 dX12_leaveSame_62 rfl (by omega) (by omega) (fun h23 => ?_) (fun h23 => ?_)
                · skip
                  exact j_sub [0, 1, 2, 3, 4] [(0, .ref a), (1, .int (zI x1)), (2, .int (zI x2)), (3, .int (zI v1)), (4, .int (zI v4))] rfl (c67_6  )
                · skip
                  refine j_iconst hx dX12_leaveSame_65 ?_
                  exact j_zret hx hq rfl (by decide) (by decide) dX12_leaveSame_66 (by omega) ⟨0, rfl, rfl, rfl, (by omega)⟩
        exact j_sub [1, 2, 3, 4, 0] [(0, .ref a), (1, .int (zI x1)), (2, .int (zI x2)), (3, .int (zI v1)), (4, .int (zI (150 * v1)))] rfl (c15_3 (2147483648 * 4) (150 * v1) (by omega) (by omega) (by omega))
  exact j_sub [1, 2, 3, 0] [(0, .ref a), (1, .int (zI x1)), (2, .int (zI x2)), (3, .int (zI 0))] rfl (c2_1 (2147483648 * 4) 0 (by omega) (by omega))

theorem lk_RX12_420 : LkV RX12 420 RX12 yX12_leaveSame cX12_leaveSame 5 (some .boolean) 2 := ⟨km_RX12_420, ki_yX12_leaveSame, ks_RX12_yX12_leaveSame, kn_RX12, kc_yX12_leaveSame, rfl, by decide +kernel, by decide +kernel, by decide +kernel⟩
set_option maxHeartbeats 1200000 in
set_option maxRecDepth 20000 in
theorem c_X12_isSame {E : zE} {l : Launch} (hst : l.stackTraces = false) (a : Nat) (x1 : Int) (x2 : Int) : Con E l yX12_isSame cX12_isSame 4 (some .boolean) { frames := 1, cells := 0, slots := 0, locals := 24 } (fun G s vs => vs = [.ref a, .int (zI x1), .int (zI x2)] ∧ zGK G ∧ zSK G s ∧ (gT G a = 13) ∧ (0 ≤ x1 ∧ x1 ≤ 3000) ∧ (0 ≤ x2 ∧ x2 ≤ 3000) ∧ (zRva (s (gP G a 34)) (s (gP G a 35)) (s (gP G a 37)))) (fun G s _ => pI (fun r G2 s2 => G2 = G ∧ s2 = s ∧ (0 ≤ r ∧ r ≤ 1))) := by
  refine Con.mk hst (by decide) (fun G s vs h => by rw [h.1]; exact Nat.le_of_ble_eq_true rfl) ?_
  rintro X G s0 vs ⟨rfl, hG, hS0, ha, hx1, hx2, e0⟩ rfl hx hq
  show JJ X E 4 G s0 0 0 [(0, .ref a), (1, .int (zI x1)), (2, .int (zI x2))] 0 []
  refine j_iconst hx dX12_isSame_0 ?_
  refine j_istore_n hx [(3, .int (zI 0)), (0, .ref a), (1, .int (zI x1)), (2, .int (zI x2))] dX12_isSame_1 (by decide) rfl ?_
  have c2_1 : ∀ (m_c2_1 : Nat) (v1 : Int), 2147483648 - v1 < m_c2_1 → (0 ≤ v1 ∧ v1 ≤ 69) → JJ X E 4 G s0 0 0 [(0, .ref a), (1, .int (zI x1)), (2, .int (zI x2)), (3, .int (zI v1))] 2 [] := by
    intro m_c2_1
    induction m_c2_1 with
    | zero => intro v1 hm_c2_1 fA2; exfalso; omega
    | succ m_c2_1 ih_c2_1 => 
      intro v1 hm_c2_1 fA2
      refine j_iload_n hx 3 dX12_isSame_2 rfl ?_
      refine j_bipush hx dX12_isSame_3 rfl ?_
      refine j_icmp_ge hx 41 dX12_isSame_5 rfl (by omega) ⟨by decide, by decide⟩ (fun h2 => ?_) (fun h2 => ?_)
      · skip
        refine j_aload_n hx 0 dX12_isSame_41 rfl ?_
        refine j_aload_n hx 0 dX12_isSame_42 rfl ?_
        refine g13_48 hx hG ha kf_RX12_109 dX12_isSame_43 ?_
        refine j_bipush hx dX12_isSame_46 rfl ?_
        refine j_iload_n hx 1 dX12_isSame_48 rfl ?_
        refine j_imul hx (r := 70 * x1) dX12_isSame_49 rfl ?_
        refine j_bipush hx dX12_isSame_50 rfl ?_
        refine j_iadd hx (r := 70 * x1 + 70) dX12_isSame_52 (by omega) ?_
        refine j_iconst hx dX12_isSame_53 ?_
        refine j_isub hx (r := 70 * x1 + 69) dX12_isSame_54 (by omega) ?_
        have f3 := zaI (j := (70 * x1 + 69).toNat) hS0 (zr (k := 48) (t2 := 101) hG ha rfl) rfl (zlen hG (zr (k := 48) (t2 := 101) hG ha rfl) (n := 210070) rfl rfl) (show 0 ≤ 70 * x1 + 69 by omega) (by omega) rfl
        refine j_iald hx hG (zr (k := 48) (t2 := 101) hG ha rfl) (by decide) rfl (zlen hG (zr (k := 48) (t2 := 101) hG ha rfl) (n := 210070) rfl rfl) (by omega) (by omega) (j := (70 * x1 + 69).toNat) rfl rfl dX12_isSame_55 ?_
        refine j_aload_n hx 0 dX12_isSame_56 rfl ?_
        refine g13_48 hx hG ha kf_RX12_109 dX12_isSame_57 ?_
        refine j_bipush hx dX12_isSame_60 rfl ?_
        refine j_iload_n hx 2 dX12_isSame_62 rfl ?_
        refine j_imul hx (r := 70 * x2) dX12_isSame_63 rfl ?_
        refine j_bipush hx dX12_isSame_64 rfl ?_
        refine j_iadd hx (r := 70 * x2 + 70) dX12_isSame_66 (by omega) ?_
        refine j_iconst hx dX12_isSame_67 ?_
        refine j_isub hx (r := 70 * x2 + 69) dX12_isSame_68 (by omega) ?_
        have f4 := zaI (j := (70 * x2 + 69).toNat) hS0 (zr (k := 48) (t2 := 101) hG ha rfl) rfl (zlen hG (zr (k := 48) (t2 := 101) hG ha rfl) (n := 210070) rfl rfl) (show 0 ≤ 70 * x2 + 69 by omega) (by omega) rfl
        refine j_iald hx hG (zr (k := 48) (t2 := 101) hG ha rfl) (by decide) rfl (zlen hG (zr (k := 48) (t2 := 101) hG ha rfl) (n := 210070) rfl rfl) (by omega) (by omega) (j := (70 * x2 + 69).toNat) rfl rfl dX12_isSame_69 ?_
        refine j_callV hx hG (c_X12_leaveSame hst a ((s0 (gP G a 48) (70 * x1 + 69).toNat)) ((s0 (gP G a 48) (70 * x2 + 69).toNat))) lk_RX12_420 ha (by decide) rfl rfl rfl rfl [.int (zI ((s0 (gP G a 48) (70 * x1 + 69).toNat))), .int (zI ((s0 (gP G a 48) (70 * x2 + 69).toNat)))] ⟨rfl, hG, hS0, ha, (by omega), (by omega), (e0)⟩ rfl rfl ⟨by decide, by decide⟩ ⟨by decide, by decide⟩ (k2 := 0) (n2 := 0) rfl rfl (Nat.le_of_ble_eq_true rfl) dX12_isSame_70 (kIP (fun v5 q6 => ?_))
        exact j_zret hx hq rfl (by decide) (by decide) dX12_isSame_73 (by omega) ⟨v5, rfl, rfl, rfl, (by omega)⟩
      · skip
        refine j_aload_n hx 0 dX12_isSame_8 rfl ?_
        refine g13_48 hx hG ha kf_RX12_109 dX12_isSame_9 ?_
        refine j_bipush hx dX12_isSame_12 rfl ?_
        refine j_iload_n hx 1 dX12_isSame_14 rfl ?_
        refine j_imul hx (r := 70 * x1) dX12_isSame_15 rfl ?_
        refine j_iload_n hx 3 dX12_isSame_16 rfl ?_
        refine j_iadd hx (r := 70 * x1 + v1) dX12_isSame_17 (by omega) ?_
        have f7 := zaI (j := (70 * x1 + v1).toNat) hS0 (zr (k := 48) (t2 := 101) hG ha rfl) rfl (zlen hG (zr (k := 48) (t2 := 101) hG ha rfl) (n := 210070) rfl rfl) (show 0 ≤ 70 * x1 + v1 by omega) (by omega) rfl
        refine j_iald hx hG (zr (k := 48) (t2 := 101) hG ha rfl) (by decide) rfl (zlen hG (zr (k := 48) (t2 := 101) hG ha rfl) (n := 210070) rfl rfl) (by omega) (by omega) (j := (70 * x1 + v1).toNat) rfl rfl dX12_isSame_18 ?_
        refine j_aload_n hx 0 dX12_isSame_19 rfl ?_
        refine g13_48 hx hG ha kf_RX12_109 dX12_isSame_20 ?_
        refine j_bipush hx dX12_isSame_23 rfl ?_
        refine j_iload_n hx 2 dX12_isSame_25 rfl ?_
        refine j_imul hx (r := 70 * x2) dX12_isSame_26 rfl ?_
        refine j_iload_n hx 3 dX12_isSame_27 rfl ?_
        refine j_iadd hx (r := 70 * x2 + v1) dX12_isSame_28 (by omega) ?_
        have f8 := zaI (j := (70 * x2 + v1).toNat) hS0 (zr (k := 48) (t2 := 101) hG ha rfl) rfl (zlen hG (zr (k := 48) (t2 := 101) hG ha rfl) (n := 210070) rfl rfl) (show 0 ≤ 70 * x2 + v1 by omega) (by omega) rfl
        refine j_iald hx hG (zr (k := 48) (t2 := 101) hG ha rfl) (by decide) rfl (zlen hG (zr (k := 48) (t2 := 101) hG ha rfl) (n := 210070) rfl rfl) (by omega) (by omega) (j := (70 * x2 + v1).toNat) rfl rfl dX12_isSame_29 ?_
        refine j_icmp_eq hx 35 dX12_isSame_30 rfl (by omega) (by omega) (fun h9 => ?_) (fun h9 => ?_)
        · skip
          refine j_iinc hx 3 [(3, .int (zI (v1 + 1))), (0, .ref a), (1, .int (zI x1)), (2, .int (zI x2))] dX12_isSame_35 rfl (by omega) (by decide) rfl ?_
          refine j_goto hx 2 dX12_isSame_38 rfl ?_
          exact j_sub [1, 2, 3, 0] [(0, .ref a), (1, .int (zI x1)), (2, .int (zI x2)), (3, .int (zI (v1 + 1)))] rfl (ih_c2_1 (v1 + 1) (by omega) (by omega))
        · skip
          refine j_iconst hx dX12_isSame_33 ?_
          exact j_zret hx hq rfl (by decide) (by decide) dX12_isSame_34 (by omega) ⟨0, rfl, rfl, rfl, (by omega)⟩
  exact j_sub [1, 2, 3, 0] [(0, .ref a), (1, .int (zI x1)), (2, .int (zI x2)), (3, .int (zI 0))] rfl (c2_1 (2147483648 * 4) 0 (by omega) (by omega))

theorem lk_RX12_423 : LkV RX12 423 RX12 yX12_isSame cX12_isSame 4 (some .boolean) 2 := ⟨km_RX12_423, ki_yX12_isSame, ks_RX12_yX12_isSame, kn_RX12, kc_yX12_isSame, rfl, by decide +kernel, by decide +kernel, by decide +kernel⟩
set_option maxHeartbeats 1200000 in
set_option maxRecDepth 20000 in
theorem c_X12_earlier {E : zE} {l : Launch} (hst : l.stackTraces = false) (a : Nat) (x1 : Int) : Con E l yX12_earlier cX12_earlier 5 (some .int) { frames := 2, cells := 0, slots := 0, locals := 47 } (fun G s vs => vs = [.ref a, .int (zI x1)] ∧ zGK G ∧ zSK G s ∧ (gT G a = 13) ∧ (0 ≤ x1 ∧ x1 ≤ 3000) ∧ (zRva (s (gP G a 34)) (s (gP G a 35)) (s (gP G a 37))) ∧ (zCh (s (gP G a 49)) (s (gP G a 50)) x1)) (fun G s _ => pI (fun r G2 s2 => G2 = G ∧ zSK G s2 ∧ zFr [102, 103] G s s2 ∧ ((-1) ≤ r ∧ r ≤ 3000) ∧ zCh (s2 (gP G a 49)) (s2 (gP G a 50)) (x1 + 1))) := by
  refine Con.mk hst (by decide) (fun G s vs h => by rw [h.1]; exact Nat.le_of_ble_eq_true rfl) ?_
  rintro X G s0 vs ⟨rfl, hG, hS0, ha, hx1, e0, e1⟩ rfl hx hq
  show JJ X E 5 G s0 0 0 [(0, .ref a), (1, .int (zI x1))] 0 []
  refine j_iconst hx dX12_earlier_0 ?_
  refine j_istore_n hx [(2, .int (zI 0)), (0, .ref a), (1, .int (zI x1))] dX12_earlier_1 (by decide) rfl ?_
  refine j_iconst hx dX12_earlier_2 ?_
  refine j_istore_n hx [(3, .int (zI 0)), (2, .int (zI 0)), (0, .ref a), (1, .int (zI x1))] dX12_earlier_3 (by decide) rfl ?_
  have c4_1 : ∀ (m_c4_1 : Nat) (v1 : Int) (v2 : Int), 2147483648 - v2 < m_c4_1 → ((-2147483648) ≤ v1 ∧ v1 ≤ 2147483647) → (0 ≤ v2 ∧ v2 ≤ 69) → JJ X E 5 G s0 0 0 [(0, .ref a), (1, .int (zI x1)), (2, .int (zI v1)), (3, .int (zI v2))] 4 [] := by
    intro m_c4_1
    induction m_c4_1 with
    | zero => intro v1 v2 hm_c4_1 fA2 fA3; exfalso; omega
    | succ m_c4_1 ih_c4_1 => 
      intro v1 v2 hm_c4_1 fA2 fA3
      refine j_iload_n hx 3 dX12_earlier_4 rfl ?_
      refine j_bipush hx dX12_earlier_5 rfl ?_
      refine j_icmp_ge hx 33 dX12_earlier_7 rfl (by omega) ⟨by decide, by decide⟩ (fun h3 => ?_) (fun h3 => ?_)
      · skip
        refine j_iload_n hx 2 dX12_earlier_33 rfl ?_
        refine j_iload_n hx 2 dX12_earlier_34 rfl ?_
        refine j_bipush hx dX12_earlier_35 rfl ?_
        refine j_iushr hx dX12_earlier_37 (fun v4 f5 f6 => ?_)
        refine j_ixor hx dX12_earlier_38 (fun v7 f8 f9 => ?_)
        refine j_iload_n hx 2 dX12_earlier_39 rfl ?_
        refine j_bipush hx dX12_earlier_40 rfl ?_
        refine j_iushr hx dX12_earlier_42 (fun v10 f11 f12 => ?_)
        refine j_ixor hx dX12_earlier_43 (fun v13 f14 f15 => ?_)
        refine j_sipush hx dX12_earlier_44 rfl ?_
        refine j_iand hx dX12_earlier_47 (by omega) ⟨by decide, by decide⟩ (fun v16 f17 f18 f19 f20 _ => ?_)
        refine j_istore_n hx [(2, .int (zI v16)), (0, .ref a), (1, .int (zI x1)), (3, .int (zI v2))] dX12_earlier_48 (by decide) rfl ?_
        refine j_iconst hx dX12_earlier_49 ?_
        refine j_istore_n hx [(3, .int (zI (-1))), (2, .int (zI v16)), (0, .ref a), (1, .int (zI x1))] dX12_earlier_50 (by decide) rfl ?_
        refine j_aload_n hx 2 dX12_earlier_51 rfl ?_
        refine g13_50 hx hG ha kf_RX12_115 dX12_earlier_52 ?_
        refine j_iload_n hx 1 dX12_earlier_55 rfl ?_
        have f22 := zaI (j := (v16).toNat) hS0 (zr (k := 50) (t2 := 103) hG ha rfl) rfl (zlen hG (zr (k := 50) (t2 := 103) hG ha rfl) (n := 8192) rfl rfl) (show 0 ≤ v16 by omega) (by omega) rfl
        refine j_iald hx hG (zr (k := 50) (t2 := 103) hG ha rfl) (by decide) rfl (zlen hG (zr (k := 50) (t2 := 103) hG ha rfl) (n := 8192) rfl rfl) (by omega) (by omega) (j := (v16).toNat) rfl rfl dX12_earlier_56 ?_
        have z23 := zCh_b e1 (h := v16) (by omega) (by omega)
        refine j_istore hx [(4, .int (zI ((s0 (gP G a 50) (v16).toNat)))), (3, .int (zI (-1))), (2, .int (zI v16)), (0, .ref a), (1, .int (zI x1))] dX12_earlier_57 (by decide) rfl ?_
        have c59_4 : ∀ (m_c59_4 : Nat) (v24 : Int) (v25 : Int), v25 + 2 < m_c59_4 → ((-1) ≤ v24 ∧ v24 ≤ 3000) → ((-1) ≤ v25 ∧ v25 ≤ 3000) → (v25 < x1) → JJ X E 5 G s0 0 0 [(0, .ref a), (1, .int (zI x1)), (2, .int (zI v16)), (3, .int (zI v24)), (4, .int (zI v25))] 59 [] := by
          intro m_c59_4
          induction m_c59_4 with
          | zero => intro v24 v25 hm_c59_4 fA5 fA6 fA7; exfalso; omega
          | succ m_c59_4 ih_c59_4 => 
            intro v24 v25 hm_c59_4 fA5 fA6 fA7
            refine j_iload hx 4 dX12_earlier_59 rfl ?_
            refine j_iconst hx dX12_earlier_61 ?_
            have c95_8 : JJ X E 5 G s0 0 0 [(0, .ref a), (1, .int (zI x1)), (2, .int (zI v16)), (3, .int (zI v24))] 95 [] := by
              refine j_aload_n hx 0 dX12_earlier_95 rfl ?_
              refine g13_49 hx hG ha kf_RX12_112 dX12_earlier_96 ?_
              refine j_iload_n hx 1 dX12_earlier_99 rfl ?_
              refine j_aload_n hx 0 dX12_earlier_100 rfl ?_
              refine g13_50 hx hG ha kf_RX12_115 dX12_earlier_101 ?_
              refine j_iload_n hx 2 dX12_earlier_104 rfl ?_
              refine j_iald hx hG (zr (k := 50) (t2 := 103) hG ha rfl) (by decide) rfl (zlen hG (zr (k := 50) (t2 := 103) hG ha rfl) (n := 8192) rfl rfl) (by omega) (by omega) (j := (v16).toNat) rfl rfl dX12_earlier_105 ?_
              refine j_iast hx hG (zr (k := 49) (t2 := 102) hG ha rfl) (by decide) rfl (zlen hG (zr (k := 49) (t2 := 102) hG ha rfl) (n := 3001) rfl rfl) (by omega) (by omega) (j := (x1).toNat) rfl dX12_earlier_106 ?_
              obtain ⟨s9, e_s9⟩ : ∃ z, z = zU s0 (gP G a 49) (x1).toNat ((s0 (gP G a 50) (v16).toNat)) := ⟨_, rfl⟩
              rw [← e_s9]
              have hS_s9 : zSK G s9 := by rw [e_s9]; exact zSK_A hS0 (zr (k := 49) (t2 := 102) hG ha rfl) rfl rfl rfl (by omega)
              refine j_aload_n hx 0 dX12_earlier_107 rfl ?_
              refine g13_50 hx hG ha kf_RX12_115 dX12_earlier_108 ?_
              refine j_iload_n hx 2 dX12_earlier_111 rfl ?_
              refine j_iload_n hx 1 dX12_earlier_112 rfl ?_
              refine j_iast hx hG (zr (k := 50) (t2 := 103) hG ha rfl) (by decide) rfl (zlen hG (zr (k := 50) (t2 := 103) hG ha rfl) (n := 8192) rfl rfl) (by omega) (by omega) (j := (v16).toNat) rfl dX12_earlier_113 ?_
              obtain ⟨s10, e_s10⟩ : ∃ z, z = zU s9 (gP G a 50) (v16).toNat x1 := ⟨_, rfl⟩
              rw [← e_s10]
              have hS_s10 : zSK G s10 := by rw [e_s10]; exact zSK_A hS_s9 (zr (k := 50) (t2 := 103) hG ha rfl) rfl rfl rfl (by omega)
              have hP26 : zCh (s10 (gP G a 49)) (s10 (gP G a 50)) (x1 + 1) := zCh_w e1 e_s9 e_s10 (zne (zr (k := 50) (t2 := 103) hG ha rfl) (zr (k := 49) (t2 := 102) hG ha rfl) (by decide)) (by omega) (by omega) (by omega)
              refine j_iload_n hx 3 dX12_earlier_114 rfl ?_
              exact j_iret hx hq rfl (by decide) (by decide) dX12_earlier_115 ⟨v24, rfl, rfl, hS_s10, (zFr_u (zFr_u zFr_rf e_s9 (zr (k := 49) (t2 := 102) hG ha rfl) (by decide)) e_s10 (zr (k := 50) (t2 := 103) hG ha rfl) (by decide)), ⟨(by omega), (zCh_n hP26 (by omega))⟩⟩
            refine j_icmp_eq hx 95 dX12_earlier_62 rfl (by omega) ⟨by decide, by decide⟩ (fun h27 => ?_) (fun h27 => ?_)
            · skip
              exact j_sub [0, 1, 2, 3] [(0, .ref a), (1, .int (zI x1)), (2, .int (zI v16)), (3, .int (zI v24))] rfl (c95_8  )
            · skip
              refine j_iload_n hx 3 dX12_earlier_65 rfl ?_
              refine j_iconst hx dX12_earlier_66 ?_
              refine j_icmp_ne hx 95 dX12_earlier_67 rfl (by omega) ⟨by decide, by decide⟩ (fun h28 => ?_) (fun h28 => ?_)
              · skip
                exact j_sub [0, 1, 2, 3] [(0, .ref a), (1, .int (zI x1)), (2, .int (zI v16)), (3, .int (zI v24))] rfl (c95_8  )
              · skip
                have z29 := zCh_c e1 (k := v25) (by omega) (by omega)
                refine j_aload_n hx 0 dX12_earlier_70 rfl ?_
                refine j_iload hx 4 dX12_earlier_71 rfl ?_
                refine j_iload_n hx 1 dX12_earlier_73 rfl ?_
                refine j_callV hx hG (c_X12_isSame hst a v25 x1) lk_RX12_423 ha (by decide) rfl rfl rfl rfl [.int (zI v25), .int (zI x1)] ⟨rfl, hG, hS0, ha, (by omega), (by omega), (e0)⟩ rfl rfl ⟨by decide, by decide⟩ ⟨by decide, by decide⟩ (k2 := 0) (n2 := 0) rfl rfl (Nat.le_of_ble_eq_true rfl) dX12_earlier_74 (kIP (fun v30 q31 => ?_))
                have c83_11 : ∀ (v32 : Int), ((-1) ≤ v32 ∧ v32 ≤ 3000) → JJ X E 5 G s0 0 0 [(0, .ref a), (1, .int (zI x1)), (2, .int (zI v16)), (3, .int (zI v32)), (4, .int (zI v25))] 83 [] := by
                  intro v32 fA12
                  refine j_aload_n hx 0 dX12_earlier_83 rfl ?_
                  refine g13_49 hx hG ha kf_RX12_112 dX12_earlier_84 ?_
                  refine j_iload hx 4 dX12_earlier_87 rfl ?_
                  have f33 := zaI (j := (v25).toNat) hS0 (zr (k := 49) (t2 := 102) hG ha rfl) rfl (zlen hG (zr (k := 49) (t2 := 102) hG ha rfl) (n := 3001) rfl rfl) (show 0 ≤ v25 by omega) (by omega) rfl
                  refine j_iald hx hG (zr (k := 49) (t2 := 102) hG ha rfl) (by decide) rfl (zlen hG (zr (k := 49) (t2 := 102) hG ha rfl) (n := 3001) rfl rfl) (by omega) (by omega) (j := (v25).toNat) rfl rfl dX12_earlier_89 ?_
                  refine j_istore hx [(4, .int (zI ((s0 (gP G a 49) (v25).toNat)))), (0, .ref a), (1, .int (zI x1)), (2, .int (zI v16)), (3, .int (zI v32))] dX12_earlier_90 (by decide) rfl ?_
                  refine j_goto hx 59 dX12_earlier_92 rfl ?_
                  exact j_sub [1, 2, 3, 4, 0] [(0, .ref a), (1, .int (zI x1)), (2, .int (zI v16)), (3, .int (zI v32)), (4, .int (zI ((s0 (gP G a 49) (v25).toNat))))] rfl (ih_c59_4 v32 ((s0 (gP G a 49) (v25).toNat)) (by omega) (by omega) (by omega) (by omega))
                refine j_if_eq hx 83 dX12_earlier_77 rfl (by omega) (fun h34 => ?_) (fun h34 => ?_)
                · skip
                  exact j_sub [0, 1, 2, 3, 4] [(0, .ref a), (1, .int (zI x1)), (2, .int (zI v16)), (3, .int (zI v24)), (4, .int (zI v25))] rfl (c83_11 v24 (by omega))
                · skip
                  refine j_iload hx 4 dX12_earlier_80 rfl ?_
                  refine j_istore_n hx [(3, .int (zI v25)), (0, .ref a), (1, .int (zI x1)), (2, .int (zI v16)), (4, .int (zI v25))] dX12_earlier_82 (by decide) rfl ?_
                  exact j_sub [1, 2, 3, 0, 4] [(0, .ref a), (1, .int (zI x1)), (2, .int (zI v16)), (3, .int (zI v25)), (4, .int (zI v25))] rfl (c83_11 v25 (by omega))
        exact j_sub [3, 4, 2, 1, 0] [(0, .ref a), (1, .int (zI x1)), (2, .int (zI v16)), (3, .int (zI (-1))), (4, .int (zI ((s0 (gP G a 50) (v16).toNat))))] rfl (c59_4 (2147483648 * 4) (-1) ((s0 (gP G a 50) (v16).toNat)) (by omega) (by omega) (by omega) (by omega))
      · skip
        refine j_bipush hx dX12_earlier_10 rfl ?_
        refine j_iload_n hx 2 dX12_earlier_12 rfl ?_
        refine j_imul hx (r := 31 * v1) dX12_earlier_13 rfl ?_
        refine j_norm (fun v35 f36 f37 f38 => ?_)
        refine j_aload_n hx 0 dX12_earlier_14 rfl ?_
        refine g13_48 hx hG ha kf_RX12_109 dX12_earlier_15 ?_
        refine j_bipush hx dX12_earlier_18 rfl ?_
        refine j_iload_n hx 1 dX12_earlier_20 rfl ?_
        refine j_imul hx (r := 70 * x1) dX12_earlier_21 rfl ?_
        refine j_iload_n hx 3 dX12_earlier_22 rfl ?_
        refine j_iadd hx (r := 70 * x1 + v2) dX12_earlier_23 (by omega) ?_
        have f39 := zaI (j := (70 * x1 + v2).toNat) hS0 (zr (k := 48) (t2 := 101) hG ha rfl) rfl (zlen hG (zr (k := 48) (t2 := 101) hG ha rfl) (n := 210070) rfl rfl) (show 0 ≤ 70 * x1 + v2 by omega) (by omega) rfl
        refine j_iald hx hG (zr (k := 48) (t2 := 101) hG ha rfl) (by decide) rfl (zlen hG (zr (k := 48) (t2 := 101) hG ha rfl) (n := 210070) rfl rfl) (by omega) (by omega) (j := (70 * x1 + v2).toNat) rfl rfl dX12_earlier_24 ?_
        refine j_iadd hx (r := v35 + (s0 (gP G a 48) (70 * x1 + v2).toNat)) dX12_earlier_25 (by omega) ?_
        refine j_norm (fun v40 f41 f42 f43 => ?_)
        refine j_istore_n hx [(2, .int (zI v40)), (0, .ref a), (1, .int (zI x1)), (3, .int (zI v2))] dX12_earlier_26 (by decide) rfl ?_
        refine j_iinc hx 3 [(3, .int (zI (v2 + 1))), (2, .int (zI v40)), (0, .ref a), (1, .int (zI x1))] dX12_earlier_27 rfl (by omega) (by decide) rfl ?_
        refine j_goto hx 4 dX12_earlier_30 rfl ?_
        exact j_sub [2, 3, 1, 0] [(0, .ref a), (1, .int (zI x1)), (2, .int (zI v40)), (3, .int (zI (v2 + 1)))] rfl (ih_c4_1 v40 (v2 + 1) (by omega) (by omega) (by omega))
  exact j_sub [2, 3, 1, 0] [(0, .ref a), (1, .int (zI x1)), (2, .int (zI 0)), (3, .int (zI 0))] rfl (c4_1 (2147483648 * 4) 0 0 (by omega) (by omega) (by omega))
