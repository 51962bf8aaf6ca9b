set_option maxHeartbeats 4000000 in
set_option maxRecDepth 20000 in
theorem c_X11_lot {E : zE} {l : Launch} (hst : l.stackTraces = false) (a : Nat) (x1 : Int) (x2 : Int) (x3 : Int) : ConX E l yX11_lot cX11_lot 9 (some .int) { frames := 7, cells := 2, slots := 12, locals := 166 } (fun G s vs => vs = [.ref a, .int (zI x1), .int (zI x2), .int (zI x3)] ∧ zGK G ∧ zSK G s ∧ (gT G a = 12) ∧ ((-2147483648) ≤ x1 ∧ x1 ≤ 2147483647) ∧ ((-2147483648) ≤ x2 ∧ x2 ≤ 2147483647) ∧ ((-2147483648) ≤ x3 ∧ x3 ≤ 2147483647)) (fun G s _ => pI (fun r G2 s2 => G2 = G ∧ zSK G s2 ∧ zFr [1, 3, 4, 7, 41, 44, 49, 50, 51, 52, 53, 54, 55] G s s2 ∧ ((-2147483648) ≤ r ∧ r ≤ 2147483647))) (fun G s _ Ex G2 s2 => G2 = G ∧ zSK G s2 ∧ zFr [1, 3, 4, 7, 12, 41, 44, 49, 50, 51, 52, 53, 54, 55] G s s2 ∧ ((Ex = "java/lang/IllegalArgumentException" ∧ (True)))) := by
  refine ConX.mk hst (by decide) (fun G s vs h => by rw [h.1]; exact Nat.le_of_ble_eq_true rfl) ?_
  rintro X G s0 vs ⟨rfl, hG, hS0, ha, hx1, hx2, hx3⟩ rfl hx hq
  show JJ X E 9 G s0 0 0 [(0, .ref a), (1, .int (zI x1)), (2, .int (zI x2)), (3, .int (zI x3))] 0 []
  refine j_aload_n hx 0 dX11_lot_0 rfl ?_
  refine j_iload_n hx 2 dX11_lot_1 rfl ?_
  refine j_iconst hx dX11_lot_2 ?_
  refine j_bipush hx dX11_lot_3 rfl ?_
  refine j_callVX hx hq hG (c_X11_needRange hst a x2 1 20) lk_RX11_98 ha (by decide) rfl rfl rfl rfl [.int (zI x2), .int (zI 1), .int (zI 20)] ⟨rfl, hG, hS0, ha, (by omega), (by omega), (by omega)⟩ rfl rfl ⟨by decide, by decide⟩ ⟨by decide, by decide⟩ (k2 := 1) (n2 := 6) rfl rfl (Nat.le_of_ble_eq_true rfl) ⟨by decide, by decide⟩ dX11_lot_5 (by rintro Ex9 G9 s9 ⟨rfl, hS9, hF9, e9, c9⟩; exact ⟨rfl, hS9, (zFr_t zFr_rf hF9 (by decide)), ⟨e9, by first | trivial | omega⟩⟩) (kVP (fun q2 => ?_))
  refine j_aload_n hx 0 dX11_lot_8 rfl ?_
  refine j_iload_n hx 3 dX11_lot_9 rfl ?_
  refine j_iconst hx dX11_lot_10 ?_
  refine j_iconst hx dX11_lot_11 ?_
  refine j_callVX hx hq hG (c_X11_needRange hst a x3 0 5) lk_RX11_98 ha (by decide) rfl rfl rfl rfl [.int (zI x3), .int (zI 0), .int (zI 5)] ⟨rfl, hG, hS0, ha, (by omega), (by omega), (by omega)⟩ rfl rfl ⟨by decide, by decide⟩ ⟨by decide, by decide⟩ (k2 := 2) (n2 := 12) rfl rfl (Nat.le_of_ble_eq_true rfl) ⟨by decide, by decide⟩ dX11_lot_12 (by rintro Ex9 G9 s9 ⟨rfl, hS9, hF9, e9, c9⟩; exact ⟨rfl, hS9, (zFr_t zFr_rf hF9 (by decide)), ⟨e9, by first | trivial | omega⟩⟩) (kVP (fun q4 => ?_))
  refine j_iconst hx dX11_lot_15 ?_
  refine j_istore hx [(4, .int (zI 0)), (0, .ref a), (1, .int (zI x1)), (2, .int (zI x2)), (3, .int (zI x3))] dX11_lot_16 (by decide) rfl ?_
  refine j_iconst hx dX11_lot_18 ?_
  refine j_istore hx [(5, .int (zI 0)), (4, .int (zI 0)), (0, .ref a), (1, .int (zI x1)), (2, .int (zI x2)), (3, .int (zI x3))] dX11_lot_19 (by decide) rfl ?_
  refine j_iconst hx dX11_lot_21 ?_
  refine j_istore hx [(6, .int (zI 0)), (5, .int (zI 0)), (4, .int (zI 0)), (0, .ref a), (1, .int (zI x1)), (2, .int (zI x2)), (3, .int (zI x3))] dX11_lot_22 (by decide) rfl ?_
  refine j_iconst hx dX11_lot_24 ?_
  refine j_istore hx [(7, .int (zI 0)), (6, .int (zI 0)), (5, .int (zI 0)), (4, .int (zI 0)), (0, .ref a), (1, .int (zI x1)), (2, .int (zI x2)), (3, .int (zI x3))] dX11_lot_25 (by decide) rfl ?_
  refine j_iconst hx dX11_lot_27 ?_
  refine j_istore hx [(8, .int (zI 0)), (7, .int (zI 0)), (6, .int (zI 0)), (5, .int (zI 0)), (4, .int (zI 0)), (0, .ref a), (1, .int (zI x1)), (2, .int (zI x2)), (3, .int (zI x3))] dX11_lot_28 (by decide) rfl ?_
  have c30_1 : ∀ (m_c30_1 : Nat) (v5 : Int) (v6 : Int) (v7 : Int) (v8 : Int) (v9 : Int) (s2 : zS), 2147483648 - v9 < m_c30_1 → ((-2147483648) ≤ v5 ∧ v5 ≤ 2147483647) → (0 ≤ v6 ∧ v6 ≤ 2147483647) → ((-2147483648) ≤ v7 ∧ v7 ≤ 2147483647) → ((-2147483648) ≤ v8 ∧ v8 ≤ 2147483647) → (0 ≤ v9 ∧ v9 ≤ 2147483647) → (zSK G s2) → (zFr [1, 3, 4, 7, 41, 44, 49, 50, 51, 52, 53, 54, 55] G s0 s2) → JJ X E 9 G s2 2 12 [(0, .ref a), (1, .int (zI x1)), (2, .int (zI x2)), (3, .int (zI x3)), (4, .int (zI v5)), (5, .int (zI v6)), (6, .int (zI v7)), (7, .int (zI v8)), (8, .int (zI v9))] 30 [] := by
    intro m_c30_1
    induction m_c30_1 with
    | zero => intro v5 v6 v7 v8 v9 s2 hm_c30_1 fA3 fA4 fA5 fA6 fA7 hS_s2 hF_s2; exfalso; omega
    | succ m_c30_1 ih_c30_1 => 
      intro v5 v6 v7 v8 v9 s2 hm_c30_1 fA3 fA4 fA5 fA6 fA7 hS_s2 hF_s2
      refine j_iload hx 8 dX11_lot_30 rfl ?_
      refine j_iload_n hx 2 dX11_lot_32 rfl ?_
      refine j_icmp_ge hx 175 dX11_lot_33 rfl (by omega) (by omega) (fun h10 => ?_) (fun h10 => ?_)
      · skip
        refine j_iload_n hx 3 dX11_lot_175 rfl ?_
        refine j_if_ne hx 182 dX11_lot_176 rfl (by omega) (fun h11 => ?_) (fun h11 => ?_)
        · skip
          refine j_iload_n hx 3 dX11_lot_182 rfl ?_
          refine j_iconst hx dX11_lot_183 ?_
          refine j_icmp_ne hx 190 dX11_lot_184 rfl (by omega) ⟨by decide, by decide⟩ (fun h12 => ?_) (fun h12 => ?_)
          · skip
            refine j_iload_n hx 3 dX11_lot_190 rfl ?_
            refine j_iconst hx dX11_lot_191 ?_
            refine j_icmp_ne hx 200 dX11_lot_192 rfl (by omega) ⟨by decide, by decide⟩ (fun h13 => ?_) (fun h13 => ?_)
            · skip
              refine j_iload hx 7 dX11_lot_200 rfl ?_
              exact j_iret hx hq.r rfl (by decide) (by decide) dX11_lot_202 ⟨v8, rfl, rfl, hS_s2, (zFr_t zFr_rf hF_s2 (by decide)), (by omega)⟩
            · skip
              refine j_iload hx 6 dX11_lot_195 rfl ?_
              refine j_goto hx 202 dX11_lot_197 rfl ?_
              exact j_iret hx hq.r rfl (by decide) (by decide) dX11_lot_202 ⟨v7, rfl, rfl, hS_s2, (zFr_t zFr_rf hF_s2 (by decide)), (by omega)⟩
          · skip
            refine j_iload hx 5 dX11_lot_187 rfl ?_
            exact j_iret hx hq.r rfl (by decide) (by decide) dX11_lot_189 ⟨v6, rfl, rfl, hS_s2, (zFr_t zFr_rf hF_s2 (by decide)), (by omega)⟩
        · skip
          refine j_iload hx 4 dX11_lot_179 rfl ?_
          exact j_iret hx hq.r rfl (by decide) (by decide) dX11_lot_181 ⟨v5, rfl, rfl, hS_s2, (zFr_t zFr_rf hF_s2 (by decide)), (by omega)⟩
      · skip
        refine j_aload_n hx 0 dX11_lot_36 rfl ?_
        refine g12_7 hx hG ha kf_RX11_55 dX11_lot_37 ?_
        refine j_aload_n hx 0 dX11_lot_40 rfl ?_
        refine g12_6 hx hG ha kf_RX11_48 dX11_lot_41 ?_
        refine j_callV hx hG (c_X2_begin hst (gP G a 7) (gP G a 6)) lk_RX11_237 (zr (k := 7) (t2 := 3) hG ha rfl) (by decide) rfl rfl rfl rfl [.ref (gP G a 6)] ⟨rfl, hG, hS_s2, (zr (k := 7) (t2 := 3) hG ha rfl), (zr (k := 6) (t2 := 4) hG ha rfl)⟩ rfl rfl ⟨by decide, by decide⟩ ⟨by decide, by decide⟩ (k2 := 2) (n2 := 12) rfl rfl (Nat.le_of_ble_eq_true rfl) dX11_lot_44 (kVM (fun s10 hS_s10 hF_s10 q15 => ?_))
        refine j_aload_n hx 0 dX11_lot_47 rfl ?_
        refine g12_7 hx hG ha kf_RX11_55 dX11_lot_48 ?_
        refine gN3_0 hx hG (zr (k := 7) (t2 := 3) hG ha rfl) kf_RX11_307 dX11_lot_51 ?_
        refine gN4_1 hx hG (zr (k := 0) (t2 := 4) hG (zr (k := 7) (t2 := 3) hG ha rfl) rfl) kf_RX11_155 dX11_lot_54 ?_
        refine j_iload_n hx 1 dX11_lot_57 rfl ?_
        refine j_iload hx 8 dX11_lot_58 rfl ?_
        refine j_iadd hx (r := x1 + v9) dX11_lot_60 rfl ?_
        refine j_norm (fun v16 f17 f18 f19 => ?_)
        refine j_callV hx hG (c_X0_mix hst (gP G (gP G (gP G a 7) 0) 1) v16) lk_RX11_304 (zr (k := 1) (t2 := 1) hG (zr (k := 0) (t2 := 4) hG (zr (k := 7) (t2 := 3) hG ha rfl) rfl) rfl) (by decide) rfl rfl rfl rfl [.int (zI v16)] ⟨rfl, hG, hS_s10, (zr (k := 1) (t2 := 1) hG (zr (k := 0) (t2 := 4) hG (zr (k := 7) (t2 := 3) hG ha rfl) rfl) rfl), (by omega)⟩ rfl rfl ⟨by decide, by decide⟩ ⟨by decide, by decide⟩ (k2 := 2) (n2 := 12) rfl rfl (Nat.le_of_ble_eq_true rfl) dX11_lot_61 (kVM (fun s11 hS_s11 hF_s11 q21 => ?_))
        refine j_aload_n hx 0 dX11_lot_64 rfl ?_
        refine g12_7 hx hG ha kf_RX11_55 dX11_lot_65 ?_
        refine j_callV hx hG (c_X2_run hst (gP G a 7)) lk_RX11_240 (zr (k := 7) (t2 := 3) hG ha rfl) (by decide) rfl rfl rfl rfl [] ⟨rfl, hG, hS_s11, (zr (k := 7) (t2 := 3) hG ha rfl)⟩ rfl rfl ⟨by decide, by decide⟩ ⟨by decide, by decide⟩ (k2 := 2) (n2 := 12) rfl rfl (Nat.le_of_ble_eq_true rfl) dX11_lot_68 (kVM (fun s12 hS_s12 hF_s12 q23 => ?_))
        refine j_iload hx 8 dX11_lot_71 rfl ?_
        have c98_13 : ∀ (v24 : Int), ((-2147483648) ≤ v24 ∧ v24 ≤ 2147483647) → JJ X E 9 G s12 2 12 [(0, .ref a), (1, .int (zI x1)), (2, .int (zI x2)), (3, .int (zI x3)), (5, .int (zI v6)), (6, .int (zI v7)), (7, .int (zI v8)), (8, .int (zI v9))] 98 [.int (zI v24)] := by
          intro v24 fA14
          refine j_istore hx [(4, .int (zI v24)), (0, .ref a), (1, .int (zI x1)), (2, .int (zI x2)), (3, .int (zI x3)), (5, .int (zI v6)), (6, .int (zI v7)), (7, .int (zI v8)), (8, .int (zI v9))] dX11_lot_98 (by decide) rfl ?_
          refine j_iload hx 5 dX11_lot_100 rfl ?_
          refine j_aload_n hx 1 dX11_lot_102 rfl ?_
          refine g12_7 hx hG ha kf_RX11_55 dX11_lot_103 ?_
          have f25 := zf hS_s12 (zr (k := 7) (t2 := 3) hG ha rfl) (k := 5) rfl
          refine gN3_5 hx hG (zr (k := 7) (t2 := 3) hG ha rfl) kf_RX11_246 rfl dX11_lot_106 ?_
          refine j_mmax hx km_RX11_310 kst_max kn_RJ9 kc_Lib_Math_max_name (by omega) (by omega) ⟨by decide, Nat.le_of_ble_eq_true rfl⟩ ⟨by decide, by decide⟩ dX11_lot_109 (fun v26 f27 f28 f29 => ?_)
          refine j_istore hx [(5, .int (zI v26)), (4, .int (zI v24)), (0, .ref a), (1, .int (zI x1)), (2, .int (zI x2)), (3, .int (zI x3)), (6, .int (zI v7)), (7, .int (zI v8)), (8, .int (zI v9))] dX11_lot_112 (by decide) rfl ?_
          refine j_iload hx 6 dX11_lot_114 rfl ?_
          refine j_aload_n hx 2 dX11_lot_116 rfl ?_
          refine g12_7 hx hG ha kf_RX11_55 dX11_lot_117 ?_
          have f30 := zf hS_s12 (zr (k := 7) (t2 := 3) hG ha rfl) (k := 6) rfl
          refine gN3_6 hx hG (zr (k := 7) (t2 := 3) hG ha rfl) kf_RX11_249 rfl dX11_lot_120 ?_
          refine j_iconst hx dX11_lot_123 ?_
          have c132_15 : ∀ (v31 : Int), (0 ≤ v31 ∧ v31 ≤ 1) → JJ X E 9 G s12 2 12 [(0, .ref a), (1, .int (zI x1)), (2, .int (zI x2)), (3, .int (zI x3)), (4, .int (zI v24)), (5, .int (zI v26)), (7, .int (zI v8)), (8, .int (zI v9))] 132 [.int (zI v31), .int (zI v7)] := by
            intro v31 fA16
            refine j_iadd hx (r := v7 + v31) dX11_lot_132 rfl ?_
            refine j_norm (fun v32 f33 f34 f35 => ?_)
            refine j_istore hx [(6, .int (zI v32)), (0, .ref a), (1, .int (zI x1)), (2, .int (zI x2)), (3, .int (zI x3)), (4, .int (zI v24)), (5, .int (zI v26)), (7, .int (zI v8)), (8, .int (zI v9))] dX11_lot_133 (by decide) rfl ?_
            refine j_iload hx 7 dX11_lot_135 rfl ?_
            refine j_aload_n hx 1 dX11_lot_137 rfl ?_
            refine g12_7 hx hG ha kf_RX11_55 dX11_lot_138 ?_
            have f36 := zf hS_s12 (zr (k := 7) (t2 := 3) hG ha rfl) (k := 4) rfl
            refine gN3_4 hx hG (zr (k := 7) (t2 := 3) hG ha rfl) kf_RX11_243 rfl dX11_lot_141 ?_
            refine j_iconst hx dX11_lot_144 ?_
            have c166_17 : ∀ (v37 : Int), (0 ≤ v37 ∧ v37 ≤ 1) → JJ X E 9 G s12 2 12 [(0, .ref a), (1, .int (zI x1)), (2, .int (zI x2)), (3, .int (zI x3)), (4, .int (zI v24)), (5, .int (zI v26)), (6, .int (zI v32)), (8, .int (zI v9))] 166 [.int (zI v37), .int (zI v8)] := by
              intro v37 fA18
              refine j_iadd hx (r := v8 + v37) dX11_lot_166 rfl ?_
              refine j_norm (fun v38 f39 f40 f41 => ?_)
              refine j_istore hx [(7, .int (zI v38)), (0, .ref a), (1, .int (zI x1)), (2, .int (zI x2)), (3, .int (zI x3)), (4, .int (zI v24)), (5, .int (zI v26)), (6, .int (zI v32)), (8, .int (zI v9))] dX11_lot_167 (by decide) rfl ?_
              refine j_iinc hx 8 [(8, .int (zI (v9 + 1))), (7, .int (zI v38)), (0, .ref a), (1, .int (zI x1)), (2, .int (zI x2)), (3, .int (zI x3)), (4, .int (zI v24)), (5, .int (zI v26)), (6, .int (zI v32))] dX11_lot_169 rfl (by omega) (by decide) rfl ?_
              refine j_goto hx 30 dX11_lot_172 rfl ?_
              exact j_sub [2, 3, 4, 5, 6, 7, 8, 1, 0] [(0, .ref a), (1, .int (zI x1)), (2, .int (zI x2)), (3, .int (zI x3)), (4, .int (zI v24)), (5, .int (zI v26)), (6, .int (zI v32)), (7, .int (zI v38)), (8, .int (zI (v9 + 1)))] rfl (ih_c30_1 v24 v26 v32 v38 (v9 + 1) s12 (by omega) (by omega) (by omega) (by omega) (by omega) (by omega) hS_s12 (zFr_t (zFr_t (zFr_t (zFr_t zFr_rf hF_s2 (by decide)) hF_s10 (by decide)) hF_s11 (by decide)) hF_s12 (by decide)))
            have c165_19 : JJ X E 9 G s12 2 12 [(0, .ref a), (1, .int (zI x1)), (2, .int (zI x2)), (3, .int (zI x3)), (4, .int (zI v24)), (5, .int (zI v26)), (6, .int (zI v32)), (8, .int (zI v9))] 165 [.int (zI v8)] := by
              refine j_iconst hx dX11_lot_165 ?_
              exact j_sub [0, 1, 2, 3, 4, 5, 6, 7] [(0, .ref a), (1, .int (zI x1)), (2, .int (zI x2)), (3, .int (zI x3)), (4, .int (zI v24)), (5, .int (zI v26)), (6, .int (zI v32)), (8, .int (zI v9))] rfl (c166_17 0 (by omega))
            refine j_icmp_eq hx 165 dX11_lot_145 rfl (by omega) ⟨by decide, by decide⟩ (fun h42 => ?_) (fun h42 => ?_)
            · skip
              exact j_sub [1, 2, 3, 4, 5, 6, 0, 8] [(0, .ref a), (1, .int (zI x1)), (2, .int (zI x2)), (3, .int (zI x3)), (4, .int (zI v24)), (5, .int (zI v26)), (6, .int (zI v32)), (8, .int (zI v9))] rfl (c165_19  )
            · skip
              refine j_aload_n hx 1 dX11_lot_148 rfl ?_
              refine g12_7 hx hG ha kf_RX11_55 dX11_lot_149 ?_
              refine gN3_4 hx hG (zr (k := 7) (t2 := 3) hG ha rfl) kf_RX11_243 rfl dX11_lot_152 ?_
              refine j_iload_n hx 4 dX11_lot_155 rfl ?_
              refine j_iconst hx dX11_lot_156 ?_
              refine j_isub hx (r := x3 - 2) dX11_lot_157 rfl ?_
              refine j_icmp_ne hx 165 dX11_lot_158 rfl (by omega) (by omega) (fun h43 => ?_) (fun h43 => ?_)
              · skip
                exact j_sub [1, 2, 3, 4, 5, 6, 0, 8] [(0, .ref a), (1, .int (zI x1)), (2, .int (zI x2)), (3, .int (zI x3)), (4, .int (zI v24)), (5, .int (zI v26)), (6, .int (zI v32)), (8, .int (zI v9))] rfl (c165_19  )
              · skip
                refine j_iconst hx dX11_lot_161 ?_
                refine j_goto hx 166 dX11_lot_162 rfl ?_
                exact j_sub [1, 2, 3, 4, 5, 6, 0, 8] [(0, .ref a), (1, .int (zI x1)), (2, .int (zI x2)), (3, .int (zI x3)), (4, .int (zI v24)), (5, .int (zI v26)), (6, .int (zI v32)), (8, .int (zI v9))] rfl (c166_17 1 (by omega))
          refine j_icmp_ne hx 131 dX11_lot_124 rfl (by omega) ⟨by decide, by decide⟩ (fun h44 => ?_) (fun h44 => ?_)
          · skip
            refine j_iconst hx dX11_lot_131 ?_
            exact j_sub [2, 3, 4, 5, 1, 0, 7, 8] [(0, .ref a), (1, .int (zI x1)), (2, .int (zI x2)), (3, .int (zI x3)), (4, .int (zI v24)), (5, .int (zI v26)), (7, .int (zI v8)), (8, .int (zI v9))] rfl (c132_15 1 (by omega))
          · skip
            refine j_iconst hx dX11_lot_127 ?_
            refine j_goto hx 132 dX11_lot_128 rfl ?_
            exact j_sub [2, 3, 4, 5, 1, 0, 7, 8] [(0, .ref a), (1, .int (zI x1)), (2, .int (zI x2)), (3, .int (zI x3)), (4, .int (zI v24)), (5, .int (zI v26)), (7, .int (zI v8)), (8, .int (zI v9))] rfl (c132_15 0 (by omega))
        refine j_if_ne hx 86 dX11_lot_73 rfl (by omega) (fun h45 => ?_) (fun h45 => ?_)
        · skip
          refine j_iload hx 4 dX11_lot_86 rfl ?_
          refine j_aload_n hx 0 dX11_lot_88 rfl ?_
          refine g12_7 hx hG ha kf_RX11_55 dX11_lot_89 ?_
          have f46 := zf hS_s12 (zr (k := 7) (t2 := 3) hG ha rfl) (k := 5) rfl
          refine gN3_5 hx hG (zr (k := 7) (t2 := 3) hG ha rfl) kf_RX11_246 rfl dX11_lot_92 ?_
          refine j_mmin hx km_RX11_137 kst_min kn_RJ9 kc_Lib_Math_min_name (by omega) (by omega) ⟨by decide, Nat.le_of_ble_eq_true rfl⟩ ⟨by decide, by decide⟩ dX11_lot_95 (fun v47 f48 f49 f50 => ?_)
          exact j_sub [0, 1, 2, 3, 5, 6, 7, 8] [(0, .ref a), (1, .int (zI x1)), (2, .int (zI x2)), (3, .int (zI x3)), (5, .int (zI v6)), (6, .int (zI v7)), (7, .int (zI v8)), (8, .int (zI v9))] rfl (c98_13 v47 (by omega))
        · skip
          refine j_aload_n hx 0 dX11_lot_76 rfl ?_
          refine g12_7 hx hG ha kf_RX11_55 dX11_lot_77 ?_
          have f51 := zf hS_s12 (zr (k := 7) (t2 := 3) hG ha rfl) (k := 5) rfl
          refine gN3_5 hx hG (zr (k := 7) (t2 := 3) hG ha rfl) kf_RX11_246 rfl dX11_lot_80 ?_
          refine j_goto hx 98 dX11_lot_83 rfl ?_
          exact j_sub [0, 1, 2, 3, 5, 6, 7, 8] [(0, .ref a), (1, .int (zI x1)), (2, .int (zI x2)), (3, .int (zI x3)), (5, .int (zI v6)), (6, .int (zI v7)), (7, .int (zI v8)), (8, .int (zI v9))] rfl (c98_13 ((s12 (gP G a 7) 5)) (by omega))
  exact j_sub [5, 6, 7, 8, 4, 3, 2, 1, 0] [(0, .ref a), (1, .int (zI x1)), (2, .int (zI x2)), (3, .int (zI x3)), (4, .int (zI 0)), (5, .int (zI 0)), (6, .int (zI 0)), (7, .int (zI 0)), (8, .int (zI 0))] rfl (c30_1 (2147483648 * 4) 0 0 0 0 0 s0 (by omega) (by omega) (by omega) (by omega) (by omega) (by omega) hS0 zFr_rf)

set_option maxHeartbeats 4000000 in
set_option maxRecDepth 20000 in
theorem c_X11_film {E : zE} {l : Launch} (hst : l.stackTraces = false) (a : Nat) (x1 : Int) (x2 : Int) (x3 : Int) (x4 : Int) (x5 : Int) : ConX E l yX11_film cX11_film 10 (some .int) { frames := 7, cells := 5, slots := 30, locals := 113 } (fun G s vs => vs = [.ref a, .int (zI x1), .int (zI x2), .int (zI x3), .int (zI x4), .int (zI x5)] ∧ zGK G ∧ zSK G s ∧ (gT G a = 12) ∧ ((-2147483648) ≤ x1 ∧ x1 ≤ 2147483647) ∧ ((-2147483648) ≤ x2 ∧ x2 ≤ 2147483647) ∧ ((-2147483648) ≤ x3 ∧ x3 ≤ 2147483647) ∧ ((-2147483648) ≤ x4 ∧ x4 ≤ 2147483647) ∧ ((-2147483648) ≤ x5 ∧ x5 ≤ 2147483647)) (fun G s _ => pI (fun r G2 s2 => G2 = G ∧ s2 = s ∧ ((-2147483648) ≤ r ∧ r ≤ 2147483647))) (fun G s _ Ex G2 s2 => G2 = G ∧ zSK G s2 ∧ zFr [12] G s s2 ∧ ((Ex = "java/lang/IllegalArgumentException" ∧ (True)))) := by
  refine ConX.mk hst (by decide) (fun G s vs h => by rw [h.1]; exact Nat.le_of_ble_eq_true rfl) ?_
  rintro X G s0 vs ⟨rfl, hG, hS0, ha, hx1, hx2, hx3, hx4, hx5⟩ rfl hx hq
  show JJ X E 10 G s0 0 0 [(0, .ref a), (1, .int (zI x1)), (2, .int (zI x2)), (3, .int (zI x3)), (4, .int (zI x4)), (5, .int (zI x5))] 0 []
  refine j_aload_n hx 0 dX11_film_0 rfl ?_
  refine j_iload_n hx 2 dX11_film_1 rfl ?_
  refine j_iconst hx dX11_film_2 ?_
  refine j_bipush hx dX11_film_3 rfl ?_
  refine j_callVX hx hq hG (c_X11_needRange hst a x2 0 99) lk_RX11_98 ha (by decide) rfl rfl rfl rfl [.int (zI x2), .int (zI 0), .int (zI 99)] ⟨rfl, hG, hS0, ha, (by omega), (by omega), (by omega)⟩ rfl rfl ⟨by decide, by decide⟩ ⟨by decide, by decide⟩ (k2 := 1) (n2 := 6) rfl rfl (Nat.le_of_ble_eq_true rfl) ⟨by decide, by decide⟩ dX11_film_5 (by rintro Ex9 G9 s9 ⟨rfl, hS9, hF9, e9, c9⟩; exact ⟨rfl, hS9, (zFr_t zFr_rf hF9 (by decide)), ⟨e9, by first | trivial | omega⟩⟩) (kVP (fun q2 => ?_))
  refine j_aload_n hx 0 dX11_film_8 rfl ?_
  refine j_iload hx 4 dX11_film_9 rfl ?_
  refine j_iconst hx dX11_film_11 ?_
  refine j_bipush hx dX11_film_12 rfl ?_
  refine j_callVX hx hq hG (c_X11_needRange hst a x4 0 99) lk_RX11_98 ha (by decide) rfl rfl rfl rfl [.int (zI x4), .int (zI 0), .int (zI 99)] ⟨rfl, hG, hS0, ha, (by omega), (by omega), (by omega)⟩ rfl rfl ⟨by decide, by decide⟩ ⟨by decide, by decide⟩ (k2 := 2) (n2 := 12) rfl rfl (Nat.le_of_ble_eq_true rfl) ⟨by decide, by decide⟩ dX11_film_14 (by rintro Ex9 G9 s9 ⟨rfl, hS9, hF9, e9, c9⟩; exact ⟨rfl, hS9, (zFr_t zFr_rf hF9 (by decide)), ⟨e9, by first | trivial | omega⟩⟩) (kVP (fun q4 => ?_))
  refine j_aload_n hx 0 dX11_film_17 rfl ?_
  refine j_iload_n hx 1 dX11_film_18 rfl ?_
  refine j_iconst hx dX11_film_19 ?_
  refine j_iload_n hx 2 dX11_film_20 rfl ?_
  refine j_callVX hx hq hG (c_X11_needRange hst a x1 0 x2) lk_RX11_98 ha (by decide) rfl rfl rfl rfl [.int (zI x1), .int (zI 0), .int (zI x2)] ⟨rfl, hG, hS0, ha, (by omega), (by omega), (by omega)⟩ rfl rfl ⟨by decide, by decide⟩ ⟨by decide, by decide⟩ (k2 := 3) (n2 := 18) rfl rfl (Nat.le_of_ble_eq_true rfl) ⟨by decide, by decide⟩ dX11_film_21 (by rintro Ex9 G9 s9 ⟨rfl, hS9, hF9, e9, c9⟩; exact ⟨rfl, hS9, (zFr_t zFr_rf hF9 (by decide)), ⟨e9, by first | trivial | omega⟩⟩) (kVP (fun q6 => ?_))
  refine j_aload_n hx 0 dX11_film_24 rfl ?_
  refine j_iload_n hx 3 dX11_film_25 rfl ?_
  refine j_iconst hx dX11_film_26 ?_
  refine j_iload hx 4 dX11_film_27 rfl ?_
  refine j_callVX hx hq hG (c_X11_needRange hst a x3 0 x4) lk_RX11_98 ha (by decide) rfl rfl rfl rfl [.int (zI x3), .int (zI 0), .int (zI x4)] ⟨rfl, hG, hS0, ha, (by omega), (by omega), (by omega)⟩ rfl rfl ⟨by decide, by decide⟩ ⟨by decide, by decide⟩ (k2 := 4) (n2 := 24) rfl rfl (Nat.le_of_ble_eq_true rfl) ⟨by decide, by decide⟩ dX11_film_29 (by rintro Ex9 G9 s9 ⟨rfl, hS9, hF9, e9, c9⟩; exact ⟨rfl, hS9, (zFr_t zFr_rf hF9 (by decide)), ⟨e9, by first | trivial | omega⟩⟩) (kVP (fun q8 => ?_))
  refine j_aload_n hx 0 dX11_film_32 rfl ?_
  refine j_iload hx 5 dX11_film_33 rfl ?_
  refine j_iconst hx dX11_film_35 ?_
  refine j_iconst hx dX11_film_36 ?_
  refine j_callVX hx hq hG (c_X11_needRange hst a x5 0 2) lk_RX11_98 ha (by decide) rfl rfl rfl rfl [.int (zI x5), .int (zI 0), .int (zI 2)] ⟨rfl, hG, hS0, ha, (by omega), (by omega), (by omega)⟩ rfl rfl ⟨by decide, by decide⟩ ⟨by decide, by decide⟩ (k2 := 5) (n2 := 30) rfl rfl (Nat.le_of_ble_eq_true rfl) ⟨by decide, by decide⟩ dX11_film_37 (by rintro Ex9 G9 s9 ⟨rfl, hS9, hF9, e9, c9⟩; exact ⟨rfl, hS9, (zFr_t zFr_rf hF9 (by decide)), ⟨e9, by first | trivial | omega⟩⟩) (kVP (fun q10 => ?_))
  refine j_iconst hx dX11_film_40 ?_
  refine j_istore hx [(6, .int (zI 0)), (0, .ref a), (1, .int (zI x1)), (2, .int (zI x2)), (3, .int (zI x3)), (4, .int (zI x4)), (5, .int (zI x5))] dX11_film_41 (by decide) rfl ?_
  refine j_iconst hx dX11_film_43 ?_
  refine j_istore hx [(7, .int (zI 0)), (6, .int (zI 0)), (0, .ref a), (1, .int (zI x1)), (2, .int (zI x2)), (3, .int (zI x3)), (4, .int (zI x4)), (5, .int (zI x5))] dX11_film_44 (by decide) rfl ?_
  refine j_iload_n hx 3 dX11_film_46 rfl ?_
  refine j_istore hx [(8, .int (zI x1)), (7, .int (zI 0)), (6, .int (zI 0)), (0, .ref a), (1, .int (zI x1)), (2, .int (zI x2)), (3, .int (zI x3)), (4, .int (zI x4)), (5, .int (zI x5))] dX11_film_47 (by decide) rfl ?_
  have c49_1 : ∀ (m_c49_1 : Nat) (v11 : Int) (v12 : Int) (v13 : Int), 2147483648 - v13 < m_c49_1 → ((-2147483648) ≤ v11 ∧ v11 ≤ 2147483647) → ((-2147483648) ≤ v12 ∧ v12 ≤ 2147483647) → ((-2147483648) ≤ v13 ∧ v13 ≤ 2147483647) → JJ X E 10 G s0 5 30 [(1, .int (zI x1)), (2, .int (zI x2)), (3, .int (zI x3)), (4, .int (zI x4)), (5, .int (zI x5)), (6, .int (zI v11)), (7, .int (zI v12)), (8, .int (zI v13))] 49 [] := by
    intro m_c49_1
    induction m_c49_1 with
    | zero => intro v11 v12 v13 hm_c49_1 fA2 fA3 fA4; exfalso; omega
    | succ m_c49_1 ih_c49_1 => 
      intro v11 v12 v13 hm_c49_1 fA2 fA3 fA4
      refine j_iload hx 7 dX11_film_49 rfl ?_
      refine j_iload_n hx 1 dX11_film_51 rfl ?_
      refine j_icmp_gt hx 111 dX11_film_52 rfl (by omega) (by omega) (fun h14 => ?_) (fun h14 => ?_)
      · skip
        refine j_iload hx 4 dX11_film_111 rfl ?_
        refine j_if_ne hx 119 dX11_film_113 rfl (by omega) (fun h15 => ?_) (fun h15 => ?_)
        · skip
          refine j_iload hx 4 dX11_film_119 rfl ?_
          refine j_iconst hx dX11_film_121 ?_
          refine j_icmp_ne hx 130 dX11_film_122 rfl (by omega) ⟨by decide, by decide⟩ (fun h16 => ?_) (fun h16 => ?_)
          · skip
            refine j_iload_n hx 1 dX11_film_130 rfl ?_
            refine j_iload_n hx 0 dX11_film_131 rfl ?_
            refine j_isub hx (r := x2 - x1) dX11_film_132 rfl ?_
            refine j_iconst hx dX11_film_133 ?_
            refine j_iadd hx (r := x2 - x1 + 1) dX11_film_134 (by omega) ?_
            refine j_iload hx 3 dX11_film_135 rfl ?_
            refine j_iload_n hx 2 dX11_film_137 rfl ?_
            refine j_isub hx (r := x4 - x3) dX11_film_138 rfl ?_
            refine j_iconst hx dX11_film_139 ?_
            refine j_iadd hx (r := x4 - x3 + 1) dX11_film_140 (by omega) ?_
            refine j_imul hx (r := ((x2 - x1 + 1) * (x4 - x3 + 1))) dX11_film_141 rfl ?_
            have f17 : 0 ≤ ((x2 - x1 + 1) * (x4 - x3 + 1)) ∧ ((x2 - x1 + 1) * (x4 - x3 + 1)) ≤ 100 * 100 := zmulnn (by omega) (by omega)
            exact j_iret hx hq.r rfl (by decide) (by decide) dX11_film_142 ⟨((x2 - x1 + 1) * (x4 - x3 + 1)), rfl, rfl, rfl, (by omega)⟩
          · skip
            refine j_iload hx 6 dX11_film_125 rfl ?_
            refine j_goto hx 142 dX11_film_127 rfl ?_
            exact j_iret hx hq.r rfl (by decide) (by decide) dX11_film_142 ⟨v12, rfl, rfl, rfl, (by omega)⟩
        · skip
          refine j_iload hx 5 dX11_film_116 rfl ?_
          exact j_iret hx hq.r rfl (by decide) (by decide) dX11_film_118 ⟨v11, rfl, rfl, rfl, (by omega)⟩
      · skip
        refine j_iload_n hx 2 dX11_film_55 rfl ?_
        refine j_istore hx [(9, .int (zI x3)), (1, .int (zI x1)), (2, .int (zI x2)), (3, .int (zI x3)), (4, .int (zI x4)), (5, .int (zI x5)), (6, .int (zI v11)), (7, .int (zI v12)), (8, .int (zI v13))] dX11_film_56 (by decide) rfl ?_
        have c58_5 : ∀ (m_c58_5 : Nat) (v18 : Int) (v19 : Int) (v20 : Int), 2147483648 - v20 < m_c58_5 → ((-2147483648) ≤ v18 ∧ v18 ≤ 2147483647) → ((-2147483648) ≤ v19 ∧ v19 ≤ 2147483647) → ((-2147483648) ≤ v20 ∧ v20 ≤ 2147483647) → JJ X E 10 G s0 5 30 [(1, .int (zI x1)), (2, .int (zI x2)), (3, .int (zI x3)), (4, .int (zI x4)), (5, .int (zI x5)), (6, .int (zI v18)), (7, .int (zI v19)), (8, .int (zI v13)), (9, .int (zI v20))] 58 [] := by
          intro m_c58_5
          induction m_c58_5 with
          | zero => intro v18 v19 v20 hm_c58_5 fA6 fA7 fA8; exfalso; omega
          | succ m_c58_5 ih_c58_5 => 
            intro v18 v19 v20 hm_c58_5 fA6 fA7 fA8
            refine j_iload hx 8 dX11_film_58 rfl ?_
            refine j_iload hx 3 dX11_film_60 rfl ?_
            refine j_icmp_gt hx 105 dX11_film_62 rfl (by omega) (by omega) (fun h21 => ?_) (fun h21 => ?_)
            · skip
              refine j_iinc hx 7 [(8, .int (zI (v13 + 1))), (1, .int (zI x1)), (2, .int (zI x2)), (3, .int (zI x3)), (4, .int (zI x4)), (5, .int (zI x5)), (6, .int (zI v18)), (7, .int (zI v19)), (9, .int (zI v20))] dX11_film_105 rfl (by omega) (by decide) rfl ?_
              refine j_goto hx 49 dX11_film_108 rfl ?_
              exact j_sub [1, 2, 3, 4, 5, 6, 7, 0] [(1, .int (zI x1)), (2, .int (zI x2)), (3, .int (zI x3)), (4, .int (zI x4)), (5, .int (zI x5)), (6, .int (zI v18)), (7, .int (zI v19)), (8, .int (zI (v13 + 1)))] rfl (ih_c49_1 v18 v19 (v13 + 1) (by omega) (by omega) (by omega) (by omega))
            · skip
              refine j_iload hx 5 dX11_film_65 rfl ?_
              refine j_iload hx 7 dX11_film_67 rfl ?_
              refine j_iload hx 8 dX11_film_69 rfl ?_
              have c79_9 : ∀ (v22 : Int), (0 ≤ v22 ∧ v22 ≤ 1) → JJ X E 10 G s0 5 30 [(1, .int (zI x1)), (2, .int (zI x2)), (3, .int (zI x3)), (4, .int (zI x4)), (5, .int (zI x5)), (7, .int (zI v19)), (8, .int (zI v13)), (9, .int (zI v20))] 79 [.int (zI v22), .int (zI v18)] := by
                intro v22 fA10
                refine j_iadd hx (r := v18 + v22) dX11_film_79 rfl ?_
                refine j_norm (fun v23 f24 f25 f26 => ?_)
                refine j_istore hx [(6, .int (zI v23)), (1, .int (zI x1)), (2, .int (zI x2)), (3, .int (zI x3)), (4, .int (zI x4)), (5, .int (zI x5)), (7, .int (zI v19)), (8, .int (zI v13)), (9, .int (zI v20))] dX11_film_80 (by decide) rfl ?_
                refine j_iload hx 6 dX11_film_82 rfl ?_
                refine j_iload hx 7 dX11_film_84 rfl ?_
                refine j_iload hx 8 dX11_film_86 rfl ?_
                have c96_11 : ∀ (v27 : Int), (0 ≤ v27 ∧ v27 ≤ 1) → JJ X E 10 G s0 5 30 [(1, .int (zI x1)), (2, .int (zI x2)), (3, .int (zI x3)), (4, .int (zI x4)), (5, .int (zI x5)), (6, .int (zI v23)), (8, .int (zI v13)), (9, .int (zI v20))] 96 [.int (zI v27), .int (zI v19)] := by
                  intro v27 fA12
                  refine j_iadd hx (r := v19 + v27) dX11_film_96 rfl ?_
                  refine j_norm (fun v28 f29 f30 f31 => ?_)
                  refine j_istore hx [(7, .int (zI v28)), (1, .int (zI x1)), (2, .int (zI x2)), (3, .int (zI x3)), (4, .int (zI x4)), (5, .int (zI x5)), (6, .int (zI v23)), (8, .int (zI v13)), (9, .int (zI v20))] dX11_film_97 (by decide) rfl ?_
                  refine j_iinc hx 8 [(9, .int (zI (v20 + 1))), (7, .int (zI v28)), (1, .int (zI x1)), (2, .int (zI x2)), (3, .int (zI x3)), (4, .int (zI x4)), (5, .int (zI x5)), (6, .int (zI v23)), (8, .int (zI v13))] dX11_film_99 rfl (by omega) (by decide) rfl ?_
                  refine j_goto hx 58 dX11_film_102 rfl ?_
                  exact j_sub [2, 3, 4, 5, 6, 7, 1, 8, 0] [(1, .int (zI x1)), (2, .int (zI x2)), (3, .int (zI x3)), (4, .int (zI x4)), (5, .int (zI x5)), (6, .int (zI v23)), (7, .int (zI v28)), (8, .int (zI v13)), (9, .int (zI (v20 + 1)))] rfl (ih_c58_5 v23 v28 (v20 + 1) (by omega) (by omega) (by omega) (by omega))
                refine j_icmp_ne hx 95 dX11_film_88 rfl (by omega) (by omega) (fun h32 => ?_) (fun h32 => ?_)
                · skip
                  refine j_iconst hx dX11_film_95 ?_
                  exact j_sub [1, 2, 3, 4, 5, 0, 7, 8] [(1, .int (zI x1)), (2, .int (zI x2)), (3, .int (zI x3)), (4, .int (zI x4)), (5, .int (zI x5)), (6, .int (zI v23)), (8, .int (zI v13)), (9, .int (zI v20))] rfl (c96_11 0 (by omega))
                · skip
                  refine j_iconst hx dX11_film_91 ?_
                  refine j_goto hx 96 dX11_film_92 rfl ?_
                  exact j_sub [1, 2, 3, 4, 5, 0, 7, 8] [(1, .int (zI x1)), (2, .int (zI x2)), (3, .int (zI x3)), (4, .int (zI x4)), (5, .int (zI x5)), (6, .int (zI v23)), (8, .int (zI v13)), (9, .int (zI v20))] rfl (c96_11 1 (by omega))
              refine j_icmp_ge hx 78 dX11_film_71 rfl (by omega) (by omega) (fun h33 => ?_) (fun h33 => ?_)
              · skip
                refine j_iconst hx dX11_film_78 ?_
                exact j_sub [0, 1, 2, 3, 4, 6, 7, 8] [(1, .int (zI x1)), (2, .int (zI x2)), (3, .int (zI x3)), (4, .int (zI x4)), (5, .int (zI x5)), (7, .int (zI v19)), (8, .int (zI v13)), (9, .int (zI v20))] rfl (c79_9 0 (by omega))
              · skip
                refine j_iconst hx dX11_film_74 ?_
                refine j_goto hx 79 dX11_film_75 rfl ?_
                exact j_sub [0, 1, 2, 3, 4, 6, 7, 8] [(1, .int (zI x1)), (2, .int (zI x2)), (3, .int (zI x3)), (4, .int (zI x4)), (5, .int (zI x5)), (7, .int (zI v19)), (8, .int (zI v13)), (9, .int (zI v20))] rfl (c79_9 1 (by omega))
        exact j_sub [1, 2, 3, 4, 5, 6, 7, 8, 0] [(1, .int (zI x1)), (2, .int (zI x2)), (3, .int (zI x3)), (4, .int (zI x4)), (5, .int (zI x5)), (6, .int (zI v11)), (7, .int (zI v12)), (8, .int (zI v13)), (9, .int (zI x3))] rfl (c58_5 (2147483648 * 4) v11 v12 x3 (by omega) (by omega) (by omega) (by omega))
  exact j_sub [4, 5, 6, 7, 8, 2, 1, 0] [(1, .int (zI x1)), (2, .int (zI x2)), (3, .int (zI x3)), (4, .int (zI x4)), (5, .int (zI x5)), (6, .int (zI 0)), (7, .int (zI 0)), (8, .int (zI x1))] rfl (c49_1 (2147483648 * 4) 0 0 x1 (by omega) (by omega) (by omega) (by omega))

set_option maxHeartbeats 4000000 in
set_option maxRecDepth 20000 in
theorem c_X11_laws {E : zE} {l : Launch} (hst : l.stackTraces = false) (a : Nat) (x1 : Int) (x2 : Int) : ConX E l yX11_laws cX11_laws 3 (some .int) { frames := 7, cells := 2, slots := 12, locals := 166 } (fun G s vs => vs = [.ref a, .int (zI x1), .int (zI x2)] ∧ zGK G ∧ zSK G s ∧ (gT G a = 12) ∧ ((-2147483648) ≤ x1 ∧ x1 ≤ 2147483647) ∧ ((-2147483648) ≤ x2 ∧ x2 ≤ 2147483647)) (fun G s _ => pI (fun r G2 s2 => G2 = G ∧ zSK G s2 ∧ zFr [1, 3, 4, 7, 41, 44, 49, 50, 51, 52, 53, 54, 55] G s s2 ∧ ((-2147483648) ≤ r ∧ r ≤ 2147483647))) (fun G s _ Ex G2 s2 => G2 = G ∧ zSK G s2 ∧ zFr [1, 3, 4, 7, 12, 41, 44, 49, 50, 51, 52, 53, 54, 55] G s s2 ∧ ((Ex = "java/lang/IllegalArgumentException" ∧ (True)))) := by
  refine ConX.mk hst (by decide) (fun G s vs h => by rw [h.1]; exact Nat.le_of_ble_eq_true rfl) ?_
  rintro X G s0 vs ⟨rfl, hG, hS0, ha, hx1, hx2⟩ rfl hx hq
  show JJ X E 3 G s0 0 0 [(0, .ref a), (1, .int (zI x1)), (2, .int (zI x2))] 0 []
  refine j_aload_n hx 0 dX11_laws_0 rfl ?_
  refine j_iload_n hx 1 dX11_laws_1 rfl ?_
  refine j_iconst hx dX11_laws_2 ?_
  refine j_bipush hx dX11_laws_3 rfl ?_
  refine j_callVX hx hq hG (c_X11_needRange hst a x1 0 8) lk_RX11_98 ha (by decide) rfl rfl rfl rfl [.int (zI x1), .int (zI 0), .int (zI 8)] ⟨rfl, hG, hS0, ha, (by omega), (by omega), (by omega)⟩ rfl rfl ⟨by decide, by decide⟩ ⟨by decide, by decide⟩ (k2 := 1) (n2 := 6) rfl rfl (Nat.le_of_ble_eq_true rfl) ⟨by decide, by decide⟩ dX11_laws_5 (by rintro Ex9 G9 s9 ⟨rfl, hS9, hF9, e9, c9⟩; exact ⟨rfl, hS9, (zFr_t zFr_rf hF9 (by decide)), ⟨e9, by first | trivial | omega⟩⟩) (kVP (fun q2 => ?_))
  refine j_aload_n hx 0 dX11_laws_8 rfl ?_
  refine j_iload_n hx 2 dX11_laws_9 rfl ?_
  refine j_iconst hx dX11_laws_10 ?_
  refine j_iconst hx dX11_laws_11 ?_
  refine j_callVX hx hq hG (c_X11_needRange hst a x2 0 1) lk_RX11_98 ha (by decide) rfl rfl rfl rfl [.int (zI x2), .int (zI 0), .int (zI 1)] ⟨rfl, hG, hS0, ha, (by omega), (by omega), (by omega)⟩ rfl rfl ⟨by decide, by decide⟩ ⟨by decide, by decide⟩ (k2 := 2) (n2 := 12) rfl rfl (Nat.le_of_ble_eq_true rfl) ⟨by decide, by decide⟩ dX11_laws_12 (by rintro Ex9 G9 s9 ⟨rfl, hS9, hF9, e9, c9⟩; exact ⟨rfl, hS9, (zFr_t zFr_rf hF9 (by decide)), ⟨e9, by first | trivial | omega⟩⟩) (kVP (fun q4 => ?_))
  refine j_aload_n hx 0 dX11_laws_15 rfl ?_
  refine g12_7 hx hG ha kf_RX11_55 dX11_laws_16 ?_
  refine j_aload_n hx 0 dX11_laws_19 rfl ?_
  refine g12_6 hx hG ha kf_RX11_48 dX11_laws_20 ?_
  refine j_callV hx hG (c_X2_begin hst (gP G a 7) (gP G a 6)) lk_RX11_237 (zr (k := 7) (t2 := 3) hG ha rfl) (by decide) rfl rfl rfl rfl [.ref (gP G a 6)] ⟨rfl, hG, hS0, (zr (k := 7) (t2 := 3) hG ha rfl), (zr (k := 6) (t2 := 4) hG ha rfl)⟩ rfl rfl ⟨by decide, by decide⟩ ⟨by decide, by decide⟩ (k2 := 2) (n2 := 12) rfl rfl (Nat.le_of_ble_eq_true rfl) dX11_laws_23 (kVM (fun s1 hS_s1 hF_s1 q6 => ?_))
  refine j_aload_n hx 0 dX11_laws_26 rfl ?_
  refine g12_7 hx hG ha kf_RX11_55 dX11_laws_27 ?_
  refine gN3_0 hx hG (zr (k := 7) (t2 := 3) hG ha rfl) kf_RX11_307 dX11_laws_30 ?_
  refine j_iconst hx dX11_laws_33 ?_
  refine j_iload_n hx 1 dX11_laws_34 rfl ?_
  refine j_iconst hx dX11_laws_35 ?_
  refine j_idiv hx dX11_laws_36 (by omega) ⟨by decide, by decide⟩ (by decide) (fun v7 f8 f9 f10 => ?_)
  refine j_callV hx hG (c_X3_setLaw hst (gP G (gP G a 7) 0) 0 v7) lk_RX11_213 (zr (k := 0) (t2 := 4) hG (zr (k := 7) (t2 := 3) hG ha rfl) rfl) (by decide) rfl rfl rfl rfl [.int (zI 0), .int (zI v7)] ⟨rfl, hG, hS_s1, (zr (k := 0) (t2 := 4) hG (zr (k := 7) (t2 := 3) hG ha rfl) rfl), (by omega), (by omega)⟩ rfl rfl ⟨by decide, by decide⟩ ⟨by decide, by decide⟩ (k2 := 2) (n2 := 12) rfl rfl (Nat.le_of_ble_eq_true rfl) dX11_laws_37 (kVM (fun s2 hS_s2 hF_s2 q14 => ?_))
  refine j_aload_n hx 0 dX11_laws_40 rfl ?_
  refine g12_7 hx hG ha kf_RX11_55 dX11_laws_41 ?_
  refine gN3_0 hx hG (zr (k := 7) (t2 := 3) hG ha rfl) kf_RX11_307 dX11_laws_44 ?_
  refine j_iconst hx dX11_laws_47 ?_
  refine j_iload_n hx 1 dX11_laws_48 rfl ?_
  refine j_iconst hx dX11_laws_49 ?_
  refine j_irem hx dX11_laws_50 (by omega) ⟨by decide, by decide⟩ (by decide) (fun v15 f16 f17 f18 f19 => ?_)
  refine j_callV hx hG (c_X3_setLaw hst (gP G (gP G a 7) 0) 1 v15) lk_RX11_213 (zr (k := 0) (t2 := 4) hG (zr (k := 7) (t2 := 3) hG ha rfl) rfl) (by decide) rfl rfl rfl rfl [.int (zI 1), .int (zI v15)] ⟨rfl, hG, hS_s2, (zr (k := 0) (t2 := 4) hG (zr (k := 7) (t2 := 3) hG ha rfl) rfl), (by omega), (by omega)⟩ rfl rfl ⟨by decide, by decide⟩ ⟨by decide, by decide⟩ (k2 := 2) (n2 := 12) rfl rfl (Nat.le_of_ble_eq_true rfl) dX11_laws_51 (kVM (fun s3 hS_s3 hF_s3 q22 => ?_))
  refine j_aload_n hx 0 dX11_laws_54 rfl ?_
  refine g12_7 hx hG ha kf_RX11_55 dX11_laws_55 ?_
  refine j_callV hx hG (c_X2_run hst (gP G a 7)) lk_RX11_240 (zr (k := 7) (t2 := 3) hG ha rfl) (by decide) rfl rfl rfl rfl [] ⟨rfl, hG, hS_s3, (zr (k := 7) (t2 := 3) hG ha rfl)⟩ rfl rfl ⟨by decide, by decide⟩ ⟨by decide, by decide⟩ (k2 := 2) (n2 := 12) rfl rfl (Nat.le_of_ble_eq_true rfl) dX11_laws_58 (kVM (fun s4 hS_s4 hF_s4 q24 => ?_))
  refine j_iload_n hx 2 dX11_laws_61 rfl ?_
  refine j_if_ne hx 75 dX11_laws_62 rfl (by omega) (fun h25 => ?_) (fun h25 => ?_)
  · skip
    refine j_aload_n hx 0 dX11_laws_75 rfl ?_
    refine g12_7 hx hG ha kf_RX11_55 dX11_laws_76 ?_
    have f26 := zf hS_s4 (zr (k := 7) (t2 := 3) hG ha rfl) (k := 5) rfl
    refine gN3_5 hx hG (zr (k := 7) (t2 := 3) hG ha rfl) kf_RX11_246 rfl dX11_laws_79 ?_
    exact j_iret hx hq.r rfl (by decide) (by decide) dX11_laws_82 ⟨(s4 (gP G a 7) 5), rfl, rfl, hS_s4, (zFr_t (zFr_t (zFr_t (zFr_t zFr_rf hF_s1 (by decide)) hF_s2 (by decide)) hF_s3 (by decide)) hF_s4 (by decide)), (by omega)⟩
  · skip
    refine j_aload_n hx 0 dX11_laws_65 rfl ?_
    refine g12_7 hx hG ha kf_RX11_55 dX11_laws_66 ?_
    have f27 := zf hS_s4 (zr (k := 7) (t2 := 3) hG ha rfl) (k := 4) rfl
    refine gN3_4 hx hG (zr (k := 7) (t2 := 3) hG ha rfl) kf_RX11_243 rfl dX11_laws_69 ?_
    refine j_goto hx 82 dX11_laws_72 rfl ?_
    exact j_iret hx hq.r rfl (by decide) (by decide) dX11_laws_82 ⟨(s4 (gP G a 7) 4), rfl, rfl, hS_s4, (zFr_t (zFr_t (zFr_t (zFr_t zFr_rf hF_s1 (by decide)) hF_s2 (by decide)) hF_s3 (by decide)) hF_s4 (by decide)), (by omega)⟩

set_option maxHeartbeats 4000000 in
set_option maxRecDepth 20000 in
theorem c_X4_winnerOf {E : zE} {l : Launch} (hst : l.stackTraces = false) (a : Nat) (x1 : Int) : Con E l yX4_winnerOf cX4_winnerOf 3 (some .int) { frames := 0, cells := 0, slots := 0, locals := 0 } (fun G s vs => vs = [.ref a, .int (zI x1)] ∧ zGK G ∧ zSK G s ∧ (gT G a = 5) ∧ ((-2147483648) ≤ x1 ∧ x1 ≤ 2147483647)) (fun G s _ => pI (fun r G2 s2 => G2 = G ∧ s2 = s ∧ ((-2147483648) ≤ r ∧ r ≤ 2147483647))) := by
  refine Con.mk hst (by decide) (fun G s vs h => by rw [h.1]; exact Nat.le_of_ble_eq_true rfl) ?_
  rintro X G s0 vs ⟨rfl, hG, hS0, ha, hx1⟩ rfl hx hq
  show JJ X E 3 G s0 0 0 [(0, .ref a), (1, .int (zI x1))] 0 []
  refine j_iload_n hx 1 dX4_winnerOf_0 rfl ?_
  refine j_bipush hx dX4_winnerOf_1 rfl ?_
  refine j_idiv hx dX4_winnerOf_3 (by omega) ⟨by decide, by decide⟩ (by decide) (fun v1 f2 f3 f4 => ?_)
  refine j_istore_n hx [(2, .int (zI v1)), (0, .ref a), (1, .int (zI x1))] dX4_winnerOf_4 (by decide) rfl ?_
  refine j_iload_n hx 2 dX4_winnerOf_5 rfl ?_
  refine j_if_lt hx 25 dX4_winnerOf_6 rfl (by omega) (fun h7 => ?_) (fun h7 => ?_)
  · skip
    refine j_iconst hx dX4_winnerOf_25 ?_
    exact j_iret hx hq rfl (by decide) (by decide) dX4_winnerOf_26 ⟨(-1), rfl, rfl, rfl, (by omega)⟩
  · skip
    refine j_iload_n hx 2 dX4_winnerOf_9 rfl ?_
    refine j_sipush hx dX4_winnerOf_10 rfl ?_
    refine j_icmp_ge hx 25 dX4_winnerOf_13 rfl (by omega) ⟨by decide, by decide⟩ (fun h8 => ?_) (fun h8 => ?_)
    · skip
      refine j_iconst hx dX4_winnerOf_25 ?_
      exact j_iret hx hq rfl (by decide) (by decide) dX4_winnerOf_26 ⟨(-1), rfl, rfl, rfl, (by omega)⟩
    · skip
      refine j_iload_n hx 0 dX4_winnerOf_16 rfl ?_
      refine j_aload_n hx 1 dX4_winnerOf_17 rfl ?_
      refine g5_0 hx hG ha kf_RX4_11 dX4_winnerOf_18 ?_
      refine j_alen hx hG (zr (k := 0) (t2 := 57) hG ha rfl) (by decide) (by decide) (zlen hG (zr (k := 0) (t2 := 57) hG ha rfl) (n := 323) rfl rfl) dX4_winnerOf_21 ?_
      refine j_icmp_lt hx 27 dX4_winnerOf_22 rfl (by omega) ⟨by decide, by decide⟩ (fun h9 => ?_) (fun h9 => ?_)
      · skip
        refine j_aload_n hx 1 dX4_winnerOf_27 rfl ?_
        refine g5_0 hx hG ha kf_RX4_11 dX4_winnerOf_28 ?_
        refine j_iload_n hx 0 dX4_winnerOf_31 rfl ?_
        have f10 := zaI (j := (v1).toNat) hS0 (zr (k := 0) (t2 := 57) hG ha rfl) rfl (zlen hG (zr (k := 0) (t2 := 57) hG ha rfl) (n := 323) rfl rfl) (show 0 ≤ v1 by omega) (by omega) rfl
        refine j_lald hx hG (zr (k := 0) (t2 := 57) hG ha rfl) (by decide) rfl (zlen hG (zr (k := 0) (t2 := 57) hG ha rfl) (n := 323) rfl rfl) (by omega) (by omega) (j := (v1).toNat) rfl rfl dX4_winnerOf_32 ?_
        refine j_iconst hx dX4_winnerOf_33 ?_
        refine j_iload_n hx 2 dX4_winnerOf_34 rfl ?_
        refine j_bipush hx dX4_winnerOf_35 rfl ?_
        refine j_irem hx dX4_winnerOf_37 (by omega) ⟨by decide, by decide⟩ (by decide) (fun v11 f12 f13 f14 f15 => ?_)
        refine j_imul hx (r := 2 * v11) dX4_winnerOf_38 rfl ?_
        refine j_lushr hx dX4_winnerOf_39 (fun w17 f18 f19 => ?_)
        refine j_ldc2 hx (c := 3) dX4_winnerOf_40 kk_RX4_34 (by decide) ?_
        refine j_land hx dX4_winnerOf_43 (fun w20 f21 f22 => ?_)
        refine j_l2i hx dX4_winnerOf_44 (by omega) (fun v23 f24 f25 f26 => ?_)
        refine j_iconst hx dX4_winnerOf_45 ?_
        refine j_isub hx (r := v23 - 1) dX4_winnerOf_46 rfl ?_
        refine j_norm (fun v27 f28 f29 f30 => ?_)
        exact j_iret hx hq rfl (by decide) (by decide) dX4_winnerOf_47 ⟨v27, rfl, rfl, rfl, (by omega)⟩
      · skip
        refine j_iconst hx dX4_winnerOf_25 ?_
        exact j_iret hx hq rfl (by decide) (by decide) dX4_winnerOf_26 ⟨(-1), rfl, rfl, rfl, (by omega)⟩

theorem lk_RX11_313 : LkV RX11 313 RX1 yX1_turnAt cX1_turnAt 2 (some .int) 1 := ⟨km_RX11_313, ki_yX1_turnAt, ks_RX1_yX1_turnAt, kn_RX1, kc_yX1_turnAt, rfl, by decide +kernel, by decide +kernel, by decide +kernel⟩
theorem lk_RX11_316 : LkV RX11 316 RX4 yX4_winnerOf cX4_winnerOf 3 (some .int) 1 := ⟨km_RX11_316, ki_yX4_winnerOf, ks_RX4_yX4_winnerOf, kn_RX4, kc_yX4_winnerOf, rfl, by decide +kernel, by decide +kernel, by decide +kernel⟩
theorem lk_RX11_319 : LkV RX11 319 RX1 yX1_playerAt cX1_playerAt 2 (some .int) 1 := ⟨km_RX11_319, ki_yX1_playerAt, ks_RX1_yX1_playerAt, kn_RX1, kc_yX1_playerAt, rfl, by decide +kernel, by decide +kernel, by decide +kernel⟩
set_option maxHeartbeats 4000000 in
set_option maxRecDepth 20000 in
theorem c_X11_right {E : zE} {l : Launch} (hst : l.stackTraces = false) (a : Nat) : Con E l yX11_right cX11_right 3 (some .int) { frames := 1, cells := 0, slots := 0, locals := 22 } (fun G s vs => vs = [.ref a] ∧ zGK G ∧ zSK G s ∧ (gT G a = 12)) (fun G s _ => pI (fun r G2 s2 => G2 = G ∧ s2 = s ∧ ((-2147483648) ≤ r ∧ r ≤ 2147483647))) := by
  refine Con.mk hst (by decide) (fun G s vs h => by rw [h.1]; exact Nat.le_of_ble_eq_true rfl) ?_
  rintro X G s0 vs ⟨rfl, hG, hS0, ha⟩ rfl hx hq
  show JJ X E 3 G s0 0 0 [(0, .ref a)] 0 []
  refine j_iconst hx dX11_right_0 ?_
  refine j_istore_n hx [(1, .int (zI 0)), (0, .ref a)] dX11_right_1 (by decide) rfl ?_
  have c2_1 : ∀ (m_c2_1 : Nat) (v1 : Int), 2147483648 - v1 < m_c2_1 → (0 ≤ v1 ∧ v1 ≤ 2147483647) → JJ X E 3 G s0 0 0 [(0, .ref a), (1, .int (zI v1))] 2 [] := by
    intro m_c2_1
    induction m_c2_1 with
    | zero => intro v1 hm_c2_1 fA2; exfalso; omega
    | succ m_c2_1 ih_c2_1 => 
      intro v1 hm_c2_1 fA2
      refine j_iload_n hx 1 dX11_right_2 rfl ?_
      refine j_aload_n hx 0 dX11_right_3 rfl ?_
      refine g12_4 hx hG ha kf_RX11_36 dX11_right_4 ?_
      have f2 := zf hS0 (zr (k := 4) (t2 := 2) hG ha rfl) (k := 2) rfl
      refine gN2_2 hx hG (zr (k := 4) (t2 := 2) hG ha rfl) kf_RX11_118 rfl dX11_right_7 ?_
      refine j_icmp_ge hx 60 dX11_right_10 rfl (by omega) (by omega) (fun h3 => ?_) (fun h3 => ?_)
      · skip
        refine j_aload_n hx 0 dX11_right_60 rfl ?_
        refine g12_4 hx hG ha kf_RX11_36 dX11_right_61 ?_
        refine gN2_2 hx hG (zr (k := 4) (t2 := 2) hG ha rfl) kf_RX11_118 rfl dX11_right_64 ?_
        exact j_iret hx hq rfl (by decide) (by decide) dX11_right_67 ⟨(s0 (gP G a 4) 2), rfl, rfl, rfl, (by omega)⟩
      · skip
        refine j_aload_n hx 0 dX11_right_13 rfl ?_
        refine g12_4 hx hG ha kf_RX11_36 dX11_right_14 ?_
        refine j_iload_n hx 1 dX11_right_17 rfl ?_
        refine j_callV hx hG (c_X1_turnAt hst (gP G a 4) v1) lk_RX11_313 (zr (k := 4) (t2 := 2) hG ha rfl) (by decide) rfl rfl rfl rfl [.int (zI v1)] ⟨rfl, hG, hS0, (zr (k := 4) (t2 := 2) hG ha rfl), (by omega)⟩ rfl rfl ⟨by decide, by decide⟩ ⟨by decide, by decide⟩ (k2 := 0) (n2 := 0) rfl rfl (Nat.le_of_ble_eq_true rfl) dX11_right_18 (kIP (fun v4 q5 => ?_))
        refine j_istore_n hx [(2, .int (zI v4)), (0, .ref a), (1, .int (zI v1))] dX11_right_21 (by decide) rfl ?_
        refine j_iload_n hx 0 dX11_right_22 rfl ?_
        refine j_aload_n hx 1 dX11_right_23 rfl ?_
        refine g12_6 hx hG ha kf_RX11_48 dX11_right_24 ?_
        have f6 := zf hS0 (zr (k := 6) (t2 := 4) hG ha rfl) (k := 10) rfl
        refine gN4_10 hx hG (zr (k := 6) (t2 := 4) hG ha rfl) kf_RX11_165 rfl dX11_right_27 ?_
        refine j_icmp_ge hx 52 dX11_right_30 rfl (by omega) (by omega) (fun h7 => ?_) (fun h7 => ?_)
        · skip
          refine j_iload_n hx 2 dX11_right_52 rfl ?_
          exact j_iret hx hq rfl (by decide) (by decide) dX11_right_53 ⟨v1, rfl, rfl, rfl, (by omega)⟩
        · skip
          refine j_aload_n hx 1 dX11_right_33 rfl ?_
          refine g12_9 hx hG ha kf_RX11_69 dX11_right_34 ?_
          refine j_iload_n hx 0 dX11_right_37 rfl ?_
          refine j_callV hx hG (c_X4_winnerOf hst (gP G a 9) v4) lk_RX11_316 (zr (k := 9) (t2 := 5) hG ha rfl) (by decide) rfl rfl rfl rfl [.int (zI v4)] ⟨rfl, hG, hS0, (zr (k := 9) (t2 := 5) hG ha rfl), (by omega)⟩ rfl rfl ⟨by decide, by decide⟩ ⟨by decide, by decide⟩ (k2 := 0) (n2 := 0) rfl rfl (Nat.le_of_ble_eq_true rfl) dX11_right_38 (kIP (fun v8 q9 => ?_))
          refine j_aload_n hx 1 dX11_right_41 rfl ?_
          refine g12_4 hx hG ha kf_RX11_36 dX11_right_42 ?_
          refine j_iload_n hx 2 dX11_right_45 rfl ?_
          refine j_callV hx hG (c_X1_playerAt hst (gP G a 4) v1) lk_RX11_319 (zr (k := 4) (t2 := 2) hG ha rfl) (by decide) rfl rfl rfl rfl [.int (zI v1)] ⟨rfl, hG, hS0, (zr (k := 4) (t2 := 2) hG ha rfl), (by omega)⟩ rfl rfl ⟨by decide, by decide⟩ ⟨by decide, by decide⟩ (k2 := 0) (n2 := 0) rfl rfl (Nat.le_of_ble_eq_true rfl) dX11_right_46 (kIP (fun v10 q11 => ?_))
          refine j_icmp_eq hx 54 dX11_right_49 rfl (by omega) (by omega) (fun h12 => ?_) (fun h12 => ?_)
          · skip
            refine j_iinc hx 2 [(1, .int (zI (v1 + 1))), (2, .int (zI v4)), (0, .ref a)] dX11_right_54 rfl (by omega) (by decide) rfl ?_
            refine j_goto hx 2 dX11_right_57 rfl ?_
            exact j_sub [2, 0] [(0, .ref a), (1, .int (zI (v1 + 1)))] rfl (ih_c2_1 (v1 + 1) (by omega) (by omega))
          · skip
            refine j_iload_n hx 2 dX11_right_52 rfl ?_
            exact j_iret hx hq rfl (by decide) (by decide) dX11_right_53 ⟨v1, rfl, rfl, rfl, (by omega)⟩
  exact j_sub [1, 0] [(0, .ref a), (1, .int (zI 0))] rfl (c2_1 (2147483648 * 4) 0 (by omega) (by omega))

set_option maxHeartbeats 4000000 in
set_option maxRecDepth 20000 in
theorem c_X11_entry {E : zE} {l : Launch} (hst : l.stackTraces = false) (a : Nat) (x1 : Int) (x2 : Int) : ConX E l yX11_entry cX11_entry 3 (some .int) { frames := 7, cells := 1, slots := 6, locals := 113 } (fun G s vs => vs = [.ref a, .int (zI x1), .int (zI x2)] ∧ zGK G ∧ zSK G s ∧ (gT G a = 12) ∧ ((-2147483648) ≤ x1 ∧ x1 ≤ 2147483647) ∧ ((-2147483648) ≤ x2 ∧ x2 ≤ 2147483647)) (fun G s _ => pI (fun r G2 s2 => G2 = G ∧ s2 = s ∧ ((-2147483648) ≤ r ∧ r ≤ 2147483647))) (fun G s _ Ex G2 s2 => G2 = G ∧ zSK G s2 ∧ zFr [12] G s s2 ∧ ((Ex = "java/lang/IllegalArgumentException" ∧ (True)))) := by
  refine ConX.mk hst (by decide) (fun G s vs h => by rw [h.1]; exact Nat.le_of_ble_eq_true rfl) ?_
  rintro X G s0 vs ⟨rfl, hG, hS0, ha, hx1, hx2⟩ rfl hx hq
  show JJ X E 3 G s0 0 0 [(0, .ref a), (1, .int (zI x1)), (2, .int (zI x2))] 0 []
  refine j_aload_n hx 0 dX11_entry_0 rfl ?_
  refine j_iload_n hx 2 dX11_entry_1 rfl ?_
  refine j_iconst hx dX11_entry_2 ?_
  refine j_iconst hx dX11_entry_3 ?_
  refine j_callVX hx hq hG (c_X11_needRange hst a x2 0 1) lk_RX11_98 ha (by decide) rfl rfl rfl rfl [.int (zI x2), .int (zI 0), .int (zI 1)] ⟨rfl, hG, hS0, ha, (by omega), (by omega), (by omega)⟩ rfl rfl ⟨by decide, by decide⟩ ⟨by decide, by decide⟩ (k2 := 1) (n2 := 6) rfl rfl (Nat.le_of_ble_eq_true rfl) ⟨by decide, by decide⟩ dX11_entry_4 (by rintro Ex9 G9 s9 ⟨rfl, hS9, hF9, e9, c9⟩; exact ⟨rfl, hS9, (zFr_t zFr_rf hF9 (by decide)), ⟨e9, by first | trivial | omega⟩⟩) (kVP (fun q2 => ?_))
  refine j_iload_n hx 2 dX11_entry_7 rfl ?_
  refine j_if_ne hx 22 dX11_entry_8 rfl (by omega) (fun h3 => ?_) (fun h3 => ?_)
  · skip
    refine j_aload_n hx 0 dX11_entry_22 rfl ?_
    refine g12_4 hx hG ha kf_RX11_36 dX11_entry_23 ?_
    refine j_iload_n hx 1 dX11_entry_26 rfl ?_
    refine j_callV hx hG (c_X1_playerAt hst (gP G a 4) x1) lk_RX11_319 (zr (k := 4) (t2 := 2) hG ha rfl) (by decide) rfl rfl rfl rfl [.int (zI x1)] ⟨rfl, hG, hS0, (zr (k := 4) (t2 := 2) hG ha rfl), (by omega)⟩ rfl rfl ⟨by decide, by decide⟩ ⟨by decide, by decide⟩ (k2 := 1) (n2 := 6) rfl rfl (Nat.le_of_ble_eq_true rfl) dX11_entry_27 (kIP (fun v4 q5 => ?_))
    exact j_iret hx hq.r rfl (by decide) (by decide) dX11_entry_30 ⟨v4, rfl, rfl, rfl, (by omega)⟩
  · skip
    refine j_aload_n hx 0 dX11_entry_11 rfl ?_
    refine g12_4 hx hG ha kf_RX11_36 dX11_entry_12 ?_
    refine j_iload_n hx 1 dX11_entry_15 rfl ?_
    refine j_callV hx hG (c_X1_turnAt hst (gP G a 4) x1) lk_RX11_313 (zr (k := 4) (t2 := 2) hG ha rfl) (by decide) rfl rfl rfl rfl [.int (zI x1)] ⟨rfl, hG, hS0, (zr (k := 4) (t2 := 2) hG ha rfl), (by omega)⟩ rfl rfl ⟨by decide, by decide⟩ ⟨by decide, by decide⟩ (k2 := 1) (n2 := 6) rfl rfl (Nat.le_of_ble_eq_true rfl) dX11_entry_16 (kIP (fun v6 q7 => ?_))
    refine j_goto hx 30 dX11_entry_19 rfl ?_
    exact j_iret hx hq.r rfl (by decide) (by decide) dX11_entry_30 ⟨v6, rfl, rfl, rfl, (by omega)⟩

set_option maxHeartbeats 4000000 in
set_option maxRecDepth 20000 in
theorem c_X11_imageOf {E : zE} {l : Launch} (hst : l.stackTraces = false) (a : Nat) (x1 : Int) : Con E l yX11_imageOf cX11_imageOf 2 (some (.object "SnapHeaps$Image")) { frames := 0, cells := 0, slots := 0, locals := 0 } (fun G s vs => vs = [.ref a, .int (zI x1)] ∧ zGK G ∧ zSK G s ∧ (gT G a = 12) ∧ ((-2147483648) ≤ x1 ∧ x1 ≤ 2147483647)) (fun G s _ => pR (fun r G2 s2 => G2 = G ∧ s2 = s ∧ gT G r = 6)) := by
  refine Con.mk hst (by decide) (fun G s vs h => by rw [h.1]; exact Nat.le_of_ble_eq_true rfl) ?_
  rintro X G s0 vs ⟨rfl, hG, hS0, ha, hx1⟩ rfl hx hq
  show JJ X E 2 G s0 0 0 [(0, .ref a), (1, .int (zI x1))] 0 []
  refine j_iload_n hx 1 dX11_imageOf_0 rfl ?_
  refine j_if_gt hx 9 dX11_imageOf_1 rfl (by omega) (fun h1 => ?_) (fun h1 => ?_)
  · skip
    refine j_iload_n hx 1 dX11_imageOf_9 rfl ?_
    refine j_iconst hx dX11_imageOf_10 ?_
    refine j_icmp_ne hx 21 dX11_imageOf_11 rfl (by omega) ⟨by decide, by decide⟩ (fun h2 => ?_) (fun h2 => ?_)
    · skip
      refine j_aload_n hx 0 dX11_imageOf_21 rfl ?_
      refine g12_12 hx hG ha kf_RX11_83 dX11_imageOf_22 ?_
      exact j_aret hx hq rfl (by decide) (by decide) dX11_imageOf_25 (Or.inr ⟨_, rfl⟩) ⟨_, rfl, rfl, rfl, (zr (k := 12) (t2 := 6) hG ha rfl)⟩
    · skip
      refine j_aload_n hx 0 dX11_imageOf_14 rfl ?_
      refine g12_11 hx hG ha kf_RX11_80 dX11_imageOf_15 ?_
      refine j_goto hx 25 dX11_imageOf_18 rfl ?_
      exact j_aret hx hq rfl (by decide) (by decide) dX11_imageOf_25 (Or.inr ⟨_, rfl⟩) ⟨_, rfl, rfl, rfl, (zr (k := 11) (t2 := 6) hG ha rfl)⟩
  · skip
    refine j_aload_n hx 0 dX11_imageOf_4 rfl ?_
    refine g12_10 hx hG ha kf_RX11_76 dX11_imageOf_5 ?_
    exact j_aret hx hq rfl (by decide) (by decide) dX11_imageOf_8 (Or.inr ⟨_, rfl⟩) ⟨_, rfl, rfl, rfl, (zr (k := 10) (t2 := 6) hG ha rfl)⟩

set_option maxHeartbeats 4000000 in
set_option maxRecDepth 20000 in
theorem c_X9_become {E : zE} {l : Launch} (hst : l.stackTraces = false) (a : Nat) (b1 : Nat) : Con E l yX9_become cX9_become 3 none { frames := 0, cells := 0, slots := 0, locals := 0 } (fun G s vs => vs = [.ref a, .ref b1] ∧ zGK G ∧ zSK G s ∧ (gT G a = 10) ∧ (gT G b1 = 10)) (fun G s _ => pV (fun G2 s2 => G2 = G ∧ zSK G s2 ∧ zFr [10, 45] G s s2 ∧ True)) := by
  refine Con.mk hst (by decide) (fun G s vs h => by rw [h.1]; exact Nat.le_of_ble_eq_true rfl) ?_
  rintro X G s0 vs ⟨rfl, hG, hS0, ha, hb1⟩ rfl hx hq
  show JJ X E 3 G s0 0 0 [(0, .ref a), (1, .ref b1)] 0 []
  refine j_iconst hx dX9_become_0 ?_
  refine j_istore_n hx [(2, .int (zI 0)), (0, .ref a), (1, .ref b1)] dX9_become_1 (by decide) rfl ?_
  have c2_1 : ∀ (m_c2_1 : Nat) (v1 : Int) (s2 : zS), 2147483648 - v1 < m_c2_1 → (0 ≤ v1 ∧ v1 ≤ 600) → (zSK G s2) → (zFr [45] G s0 s2) → JJ X E 3 G s2 0 0 [(0, .ref a), (1, .ref b1), (2, .int (zI v1))] 2 [] := by
    intro m_c2_1
    induction m_c2_1 with
    | zero => intro v1 s2 hm_c2_1 fA3 hS_s2 hF_s2; exfalso; omega
    | succ m_c2_1 ih_c2_1 => 
      intro v1 s2 hm_c2_1 fA3 hS_s2 hF_s2
      refine j_iload_n hx 2 dX9_become_2 rfl ?_
      refine j_aload_n hx 0 dX9_become_3 rfl ?_
      refine g10_0 hx hG ha kf_RX9_11 dX9_become_4 ?_
      refine j_alen hx hG (zr (k := 0) (t2 := 45) hG ha rfl) (by decide) (by decide) (zlen hG (zr (k := 0) (t2 := 45) hG ha rfl) (n := 600) rfl rfl) dX9_become_7 ?_
      refine j_icmp_ge hx 38 dX9_become_8 rfl (by omega) ⟨by decide, by decide⟩ (fun h2 => ?_) (fun h2 => ?_)
      · skip
        refine j_aload_n hx 0 dX9_become_38 rfl ?_
        refine j_aload_n hx 1 dX9_become_39 rfl ?_
        have f3 := zf hS0 hb1 (k := 1) rfl
        refine g10_1 hx hG hb1 kf_RX9_19 (v := (s0 b1 1)) (by rw [(zFr_g hF_s2 hb1 (by decide))]) dX9_become_40 ?_
        refine p10_1 hx hG ha kf_RX9_19 dX9_become_43 ?_
        obtain ⟨s6, e_s6⟩ : ∃ z, z = zU s2 a 1 ((s0 b1 1)) := ⟨_, rfl⟩
        rw [← e_s6]
        have hS_s6 : zSK G s6 := by rw [e_s6]; exact zSK_F hS_s2 ha rfl rfl rfl (by omega)
        refine j_aload_n hx 0 dX9_become_46 rfl ?_
        refine j_aload_n hx 1 dX9_become_47 rfl ?_
        have f4 := zf hS_s6 hb1 (k := 5) rfl
        refine g10_5 hx hG hb1 kf_RX9_15 rfl dX9_become_48 ?_
        refine p10_5 hx hG ha kf_RX9_15 dX9_become_51 ?_
        obtain ⟨s7, e_s7⟩ : ∃ z, z = zU s6 a 5 ((s6 b1 5)) := ⟨_, rfl⟩
        rw [← e_s7]
        have hS_s7 : zSK G s7 := by rw [e_s7]; exact zSK_F hS_s6 ha rfl rfl rfl (by omega)
        exact j_vret hx hq rfl (by decide) (by decide) dX9_become_54 ⟨rfl, rfl, hS_s7, (zFr_u (zFr_u (zFr_t zFr_rf hF_s2 (by decide)) e_s6 ha (by decide)) e_s7 ha (by decide)), trivial⟩
      · skip
        refine j_iload_n hx 2 dX9_become_11 rfl ?_
        refine j_aload_n hx 1 dX9_become_12 rfl ?_
        refine g10_0 hx hG hb1 kf_RX9_11 dX9_become_13 ?_
        refine j_alen hx hG (zr (k := 0) (t2 := 45) hG hb1 rfl) (by decide) (by decide) (zlen hG (zr (k := 0) (t2 := 45) hG hb1 rfl) (n := 600) rfl rfl) dX9_become_16 ?_
        refine j_icmp_ge hx 38 dX9_become_17 rfl (by omega) ⟨by decide, by decide⟩ (fun h5 => absurd h5 (by omega)) (fun h5 => ?_)
        refine j_aload_n hx 0 dX9_become_20 rfl ?_
        refine g10_0 hx hG ha kf_RX9_11 dX9_become_21 ?_
        refine j_iload_n hx 2 dX9_become_24 rfl ?_
        refine j_aload_n hx 1 dX9_become_25 rfl ?_
        refine g10_0 hx hG hb1 kf_RX9_11 dX9_become_26 ?_
        refine j_iload_n hx 2 dX9_become_29 rfl ?_
        have f6 := zaI (j := (v1).toNat) hS_s2 (zr (k := 0) (t2 := 45) hG hb1 rfl) rfl (zlen hG (zr (k := 0) (t2 := 45) hG hb1 rfl) (n := 600) rfl rfl) (show 0 ≤ v1 by omega) (by omega) rfl
        refine j_bald hx hG (zr (k := 0) (t2 := 45) hG hb1 rfl) (by decide) rfl (zlen hG (zr (k := 0) (t2 := 45) hG hb1 rfl) (n := 600) rfl rfl) (by omega) (by omega) (j := (v1).toNat) rfl rfl dX9_become_30 ?_
        refine j_bast hx hG (zr (k := 0) (t2 := 45) hG ha rfl) (by decide) rfl (zlen hG (zr (k := 0) (t2 := 45) hG ha rfl) (n := 600) rfl rfl) (by omega) (by omega) (j := (v1).toNat) rfl (znar_b (by omega)) dX9_become_31 ?_
        obtain ⟨s8, e_s8⟩ : ∃ z, z = zU s2 (gP G a 0) (v1).toNat ((s2 (gP G b1 0) (v1).toNat)) := ⟨_, rfl⟩
        rw [← e_s8]
        have hS_s8 : zSK G s8 := by rw [e_s8]; exact zSK_A hS_s2 (zr (k := 0) (t2 := 45) hG ha rfl) rfl rfl rfl (by omega)
        refine j_iinc hx 2 [(2, .int (zI (v1 + 1))), (0, .ref a), (1, .ref b1)] dX9_become_32 rfl (by omega) (by decide) rfl ?_
        refine j_goto hx 2 dX9_become_35 rfl ?_
        exact j_sub [1, 2, 0] [(0, .ref a), (1, .ref b1), (2, .int (zI (v1 + 1)))] rfl (ih_c2_1 (v1 + 1) s8 (by omega) (by omega) hS_s8 (zFr_u (zFr_t zFr_rf hF_s2 (by decide)) e_s8 (zr (k := 0) (t2 := 45) hG ha rfl) (by decide)))
  exact j_sub [1, 2, 0] [(0, .ref a), (1, .ref b1), (2, .int (zI 0))] rfl (c2_1 (2147483648 * 4) 0 s0 (by omega) (by omega) hS0 zFr_rf)

theorem lk_RX5_31 : LkV RX5 31 RX3 yX3_become cX3_become 3 none 1 := ⟨km_RX5_31, ki_yX3_become, ks_RX3_yX3_become, kn_RX3, kc_yX3_become, rfl, by decide +kernel, by decide +kernel, by decide +kernel⟩
theorem lk_RX5_35 : LkV RX5 35 RX9 yX9_become cX9_become 3 none 1 := ⟨km_RX5_35, ki_yX9_become, ks_RX9_yX9_become, kn_RX9, kc_yX9_become, rfl, by decide +kernel, by decide +kernel, by decide +kernel⟩
set_option maxHeartbeats 4000000 in
set_option maxRecDepth 20000 in
theorem c_X5_take {E : zE} {l : Launch} (hst : l.stackTraces = false) (a : Nat) (b1 : Nat) (b2 : Nat) (b3 : Nat) : Con E l yX5_take cX5_take 5 none { frames := 4, cells := 0, slots := 0, locals := 87 } (fun G s vs => vs = [.ref a, .ref b1, .ref b2, .ref b3] ∧ zGK G ∧ zSK G s ∧ (gT G a = 6) ∧ (gT G b1 = 4) ∧ (gT G b2 = 5) ∧ (gT G b3 = 10)) (fun G s _ => pV (fun G2 s2 => G2 = G ∧ zSK G s2 ∧ zFr [1, 4, 7, 10, 41, 44, 45, 49, 50, 57] G s s2 ∧ True)) := by
  refine Con.mk hst (by decide) (fun G s vs h => by rw [h.1]; exact Nat.le_of_ble_eq_true rfl) ?_
  rintro X G s0 vs ⟨rfl, hG, hS0, ha, hb1, hb2, hb3⟩ rfl hx hq
  show JJ X E 5 G s0 0 0 [(0, .ref a), (1, .ref b1), (2, .ref b2), (3, .ref b3)] 0 []
  refine j_aload_n hx 0 dX5_take_0 rfl ?_
  refine g6_0 hx hG ha kf_RX5_27 dX5_take_1 ?_
  refine j_aload_n hx 1 dX5_take_4 rfl ?_
  refine j_callV hx hG (c_X3_become hst (gP G a 0) b1) lk_RX5_31 (zr (k := 0) (t2 := 4) hG ha rfl) (by decide) rfl rfl rfl rfl [.ref b1] ⟨rfl, hG, hS0, (zr (k := 0) (t2 := 4) hG ha rfl), hb1⟩ rfl rfl ⟨by decide, by decide⟩ ⟨by decide, by decide⟩ (k2 := 0) (n2 := 0) rfl rfl (Nat.le_of_ble_eq_true rfl) dX5_take_5 (kVM (fun s1 hS_s1 hF_s1 q2 => ?_))
  refine j_aload_n hx 0 dX5_take_8 rfl ?_
  refine g6_1 hx hG ha kf_RX5_10 dX5_take_9 ?_
  refine j_aload_n hx 3 dX5_take_12 rfl ?_
  refine j_callV hx hG (c_X9_become hst (gP G a 1) b3) lk_RX5_35 (zr (k := 1) (t2 := 10) hG ha rfl) (by decide) rfl rfl rfl rfl [.ref b3] ⟨rfl, hG, hS_s1, (zr (k := 1) (t2 := 10) hG ha rfl), hb3⟩ rfl rfl ⟨by decide, by decide⟩ ⟨by decide, by decide⟩ (k2 := 0) (n2 := 0) rfl rfl (Nat.le_of_ble_eq_true rfl) dX5_take_13 (kVM (fun s2 hS_s2 hF_s2 q4 => ?_))
  refine j_iconst hx dX5_take_16 ?_
  refine j_istore hx [(4, .int (zI 0)), (0, .ref a), (1, .ref b1), (2, .ref b2), (3, .ref b3)] dX5_take_17 (by decide) rfl ?_
  have c19_3 : ∀ (m_c19_3 : Nat) (v5 : Int) (s4 : zS), 2147483648 - v5 < m_c19_3 → (0 ≤ v5 ∧ v5 ≤ 323) → (zSK G s4) → (zFr [57] G s2 s4) → JJ X E 5 G s4 0 0 [(0, .ref a), (2, .ref b2), (4, .int (zI v5))] 19 [] := by
    intro m_c19_3
    induction m_c19_3 with
    | zero => intro v5 s4 hm_c19_3 fA5 hS_s4 hF_s4; exfalso; omega
    | succ m_c19_3 ih_c19_3 => 
      intro v5 s4 hm_c19_3 fA5 hS_s4 hF_s4
      refine j_iload hx 2 dX5_take_19 rfl ?_
      refine j_aload_n hx 0 dX5_take_21 rfl ?_
      refine g6_2 hx hG ha kf_RX5_18 dX5_take_22 ?_
      refine j_alen hx hG (zr (k := 2) (t2 := 57) hG ha rfl) (by decide) (by decide) (zlen hG (zr (k := 2) (t2 := 57) hG ha rfl) (n := 323) rfl rfl) dX5_take_25 ?_
      refine j_icmp_ge hx 59 dX5_take_26 rfl (by omega) ⟨by decide, by decide⟩ (fun h6 => ?_) (fun h6 => ?_)
      · skip
        exact j_vret hx hq rfl (by decide) (by decide) dX5_take_59 ⟨rfl, rfl, hS_s4, (zFr_t (zFr_t (zFr_t zFr_rf hF_s1 (by decide)) hF_s2 (by decide)) hF_s4 (by decide)), trivial⟩
      · skip
        refine j_iload hx 2 dX5_take_29 rfl ?_
        refine j_aload_n hx 1 dX5_take_31 rfl ?_
        refine gN5_0 hx hG hb2 kf_RX5_38 dX5_take_32 ?_
        refine j_alen hx hG (zr (k := 0) (t2 := 57) hG hb2 rfl) (by decide) (by decide) (zlen hG (zr (k := 0) (t2 := 57) hG hb2 rfl) (n := 323) rfl rfl) dX5_take_35 ?_
        refine j_icmp_ge hx 59 dX5_take_36 rfl (by omega) ⟨by decide, by decide⟩ (fun h7 => absurd h7 (by omega)) (fun h7 => ?_)
        refine j_aload_n hx 0 dX5_take_39 rfl ?_
        refine g6_2 hx hG ha kf_RX5_18 dX5_take_40 ?_
        refine j_iload hx 2 dX5_take_43 rfl ?_
        refine j_aload_n hx 1 dX5_take_45 rfl ?_
        refine gN5_0 hx hG hb2 kf_RX5_38 dX5_take_46 ?_
        refine j_iload hx 2 dX5_take_49 rfl ?_
        have f8 := zaI (j := (v5).toNat) hS_s4 (zr (k := 0) (t2 := 57) hG hb2 rfl) rfl (zlen hG (zr (k := 0) (t2 := 57) hG hb2 rfl) (n := 323) rfl rfl) (show 0 ≤ v5 by omega) (by omega) rfl
        refine j_lald hx hG (zr (k := 0) (t2 := 57) hG hb2 rfl) (by decide) rfl (zlen hG (zr (k := 0) (t2 := 57) hG hb2 rfl) (n := 323) rfl rfl) (by omega) (by omega) (j := (v5).toNat) rfl rfl dX5_take_51 ?_
        refine j_last hx hG (zr (k := 2) (t2 := 57) hG ha rfl) (by decide) rfl (zlen hG (zr (k := 2) (t2 := 57) hG ha rfl) (n := 323) rfl rfl) (by omega) (by omega) (j := (v5).toNat) rfl dX5_take_52 ?_
        obtain ⟨s8, e_s8⟩ : ∃ z, z = zU s4 (gP G a 2) (v5).toNat ((s4 (gP G b2 0) (v5).toNat)) := ⟨_, rfl⟩
        rw [← e_s8]
        have hS_s8 : zSK G s8 := by rw [e_s8]; exact zSK_A hS_s4 (zr (k := 2) (t2 := 57) hG ha rfl) rfl rfl rfl (by omega)
        refine j_iinc hx 2 [(4, .int (zI (v5 + 1))), (0, .ref a), (2, .ref b2)] dX5_take_53 rfl (by omega) (by decide) rfl ?_
        refine j_goto hx 19 dX5_take_56 rfl ?_
        exact j_sub [1, 2, 0] [(0, .ref a), (2, .ref b2), (4, .int (zI (v5 + 1)))] rfl (ih_c19_3 (v5 + 1) s8 (by omega) (by omega) hS_s8 (zFr_u (zFr_t zFr_rf hF_s4 (by decide)) e_s8 (zr (k := 2) (t2 := 57) hG ha rfl) (by decide)))
  exact j_sub [1, 3, 0] [(0, .ref a), (2, .ref b2), (4, .int (zI 0))] rfl (c19_3 (2147483648 * 4) 0 s2 (by omega) (by omega) hS_s2 zFr_rf)

theorem lk_RX11_322 : LkV RX11 322 RX11 yX11_imageOf cX11_imageOf 2 (some (.object "SnapHeaps$Image")) 1 := ⟨km_RX11_322, ki_yX11_imageOf, ks_RX11_yX11_imageOf, kn_RX11, kc_yX11_imageOf, rfl, by decide +kernel, by decide +kernel, by decide +kernel⟩
theorem lk_RX11_326 : LkV RX11 326 RX5 yX5_take cX5_take 5 none 3 := ⟨km_RX11_326, ki_yX5_take, ks_RX5_yX5_take, kn_RX5, kc_yX5_take, rfl, by decide +kernel, by decide +kernel, by decide +kernel⟩
set_option maxHeartbeats 4000000 in
set_option maxRecDepth 20000 in
theorem c_X11_image {E : zE} {l : Launch} (hst : l.stackTraces = false) (a : Nat) : Con E l yX11_image cX11_image 1 (some .int) { frames := 5, cells := 0, slots := 0, locals := 111 } (fun G s vs => vs = [.ref a] ∧ zGK G ∧ zSK G s ∧ (gT G a = 12)) (fun G s _ => pI (fun r G2 s2 => G2 = G ∧ zSK G s2 ∧ zFr [1, 4, 7, 10, 12, 41, 44, 45, 49, 50, 57] G s s2 ∧ ((-2147483648) ≤ r ∧ r ≤ 2147483647))) := by
  refine Con.mk hst (by decide) (fun G s vs h => by rw [h.1]; exact Nat.le_of_ble_eq_true rfl) ?_
  rintro X G s0 vs ⟨rfl, hG, hS0, ha⟩ rfl hx hq
  show JJ X E 1 G s0 0 0 [(0, .ref a)] 0 []
  refine j_aload_n hx 0 dX11_image_0 rfl ?_
  have f1 := zf hS0 ha (k := 13) rfl
  refine g12_13 hx hG ha kf_RX11_121 rfl dX11_image_1 ?_
  refine j_iconst hx dX11_image_4 ?_
  refine j_icmp_lt hx 10 dX11_image_5 rfl (by omega) ⟨by decide, by decide⟩ (fun h2 => ?_) (fun h2 => ?_)
  · skip
    refine j_aload_n hx 0 dX11_image_10 rfl ?_
    refine j_aload_n hx 0 dX11_image_11 rfl ?_
    refine g12_13 hx hG ha kf_RX11_121 rfl dX11_image_12 ?_
    refine j_callV hx hG (c_X11_imageOf hst a ((s0 a 13))) lk_RX11_322 ha (by decide) rfl rfl rfl rfl [.int (zI ((s0 a 13)))] ⟨rfl, hG, hS0, ha, (by omega)⟩ rfl rfl ⟨by decide, by decide⟩ ⟨by decide, by decide⟩ (k2 := 0) (n2 := 0) rfl rfl (Nat.le_of_ble_eq_true rfl) dX11_image_15 (kRP (fun r3 q4 => ?_))
    refine j_aload_n hx 0 dX11_image_18 rfl ?_
    refine g12_6 hx hG ha kf_RX11_48 dX11_image_19 ?_
    refine j_aload_n hx 0 dX11_image_22 rfl ?_
    refine g12_9 hx hG ha kf_RX11_69 dX11_image_23 ?_
    refine j_aload_n hx 0 dX11_image_26 rfl ?_
    refine g12_0 hx hG ha kf_RX11_10 dX11_image_27 ?_
    refine j_callV hx hG (c_X5_take hst r3 (gP G a 6) (gP G a 9) (gP G a 0)) lk_RX11_326 q4 (by decide) rfl rfl rfl rfl [.ref (gP G a 6), .ref (gP G a 9), .ref (gP G a 0)] ⟨rfl, hG, hS0, q4, (zr (k := 6) (t2 := 4) hG ha rfl), (zr (k := 9) (t2 := 5) hG ha rfl), (zr (k := 0) (t2 := 10) hG ha rfl)⟩ rfl rfl ⟨by decide, by decide⟩ ⟨by decide, by decide⟩ (k2 := 0) (n2 := 0) rfl rfl (Nat.le_of_ble_eq_true rfl) dX11_image_30 (kVM (fun s1 hS_s1 hF_s1 q6 => ?_))
    refine j_aload_n hx 0 dX11_image_33 rfl ?_
    refine j_dup hx dX11_image_34 rfl ?_
    refine g12_13 hx hG ha kf_RX11_121 (v := (s0 a 13)) (by rw [(zFr_g hF_s1 ha (by decide))]) dX11_image_35 ?_
    refine j_iconst hx dX11_image_38 ?_
    refine j_iadd hx (r := (s0 a 13) + 1) dX11_image_39 (by omega) ?_
    refine p12_13 hx hG ha kf_RX11_121 dX11_image_40 ?_
    obtain ⟨s2, e_s2⟩ : ∃ z, z = zU s1 a 13 ((s0 a 13) + 1) := ⟨_, rfl⟩
    rw [← e_s2]
    have hS_s2 : zSK G s2 := by rw [e_s2]; exact zSK_F hS_s1 ha rfl rfl rfl (by omega)
    refine j_aload_n hx 0 dX11_image_43 rfl ?_
    refine g12_13 hx hG ha kf_RX11_121 (v := (s0 a 13) + 1) (by rw [e_s2, zU_eq]) dX11_image_44 ?_
    exact j_iret hx hq rfl (by decide) (by decide) dX11_image_47 ⟨(s0 a 13) + 1, rfl, rfl, hS_s2, (zFr_u (zFr_t zFr_rf hF_s1 (by decide)) e_s2 ha (by decide)), (by omega)⟩
  · skip
    refine j_iconst hx dX11_image_8 ?_
    exact j_iret hx hq rfl (by decide) (by decide) dX11_image_9 ⟨(-1), rfl, rfl, hS0, zFr_rf, (by omega)⟩

set_option maxHeartbeats 4000000 in
set_option maxRecDepth 20000 in
theorem c_X4_keepWinners {E : zE} {l : Launch} (hst : l.stackTraces = false) (a : Nat) (b1 : Nat) : Con E l yX4_keepWinners cX4_keepWinners 3 none { frames := 0, cells := 0, slots := 0, locals := 0 } (fun G s vs => vs = [.ref a, .ref b1] ∧ zGK G ∧ zSK G s ∧ (gT G a = 5) ∧ (gT G b1 = 57)) (fun G s _ => pV (fun G2 s2 => G2 = G ∧ zSK G s2 ∧ zFr [57] G s s2 ∧ True)) := by
  refine Con.mk hst (by decide) (fun G s vs h => by rw [h.1]; exact Nat.le_of_ble_eq_true rfl) ?_
  rintro X G s0 vs ⟨rfl, hG, hS0, ha, hb1⟩ rfl hx hq
  show JJ X E 3 G s0 0 0 [(0, .ref a), (1, .ref b1)] 0 []
  refine j_iconst hx dX4_keepWinners_0 ?_
  refine j_istore_n hx [(2, .int (zI 0)), (0, .ref a), (1, .ref b1)] dX4_keepWinners_1 (by decide) rfl ?_
  have c2_1 : ∀ (m_c2_1 : Nat) (v1 : Int) (s2 : zS), 2147483648 - v1 < m_c2_1 → (0 ≤ v1 ∧ v1 ≤ 323) → (zSK G s2) → (zFr [57] G s0 s2) → JJ X E 3 G s2 0 0 [(0, .ref a), (1, .ref b1), (2, .int (zI v1))] 2 [] := by
    intro m_c2_1
    induction m_c2_1 with
    | zero => intro v1 s2 hm_c2_1 fA3 hS_s2 hF_s2; exfalso; omega
    | succ m_c2_1 ih_c2_1 => 
      intro v1 s2 hm_c2_1 fA3 hS_s2 hF_s2
      refine j_iload_n hx 2 dX4_keepWinners_2 rfl ?_
      refine j_aload_n hx 0 dX4_keepWinners_3 rfl ?_
      refine g5_0 hx hG ha kf_RX4_11 dX4_keepWinners_4 ?_
      refine j_alen hx hG (zr (k := 0) (t2 := 57) hG ha rfl) (by decide) (by decide) (zlen hG (zr (k := 0) (t2 := 57) hG ha rfl) (n := 323) rfl rfl) dX4_keepWinners_7 ?_
      refine j_icmp_ge hx 32 dX4_keepWinners_8 rfl (by omega) ⟨by decide, by decide⟩ (fun h2 => ?_) (fun h2 => ?_)
      · skip
        exact j_vret hx hq rfl (by decide) (by decide) dX4_keepWinners_32 ⟨rfl, rfl, hS_s2, (zFr_t zFr_rf hF_s2 (by decide)), trivial⟩
      · skip
        refine j_iload_n hx 2 dX4_keepWinners_11 rfl ?_
        refine j_aload_n hx 1 dX4_keepWinners_12 rfl ?_
        refine j_alen hx hG hb1 (by decide) (by decide) (zlen hG hb1 (n := 323) rfl rfl) dX4_keepWinners_13 ?_
        refine j_icmp_ge hx 32 dX4_keepWinners_14 rfl (by omega) ⟨by decide, by decide⟩ (fun h3 => absurd h3 (by omega)) (fun h3 => ?_)
        refine j_aload_n hx 0 dX4_keepWinners_17 rfl ?_
        refine g5_0 hx hG ha kf_RX4_11 dX4_keepWinners_18 ?_
        refine j_iload_n hx 2 dX4_keepWinners_21 rfl ?_
        refine j_aload_n hx 1 dX4_keepWinners_22 rfl ?_
        refine j_iload_n hx 2 dX4_keepWinners_23 rfl ?_
        have f4 := zaI (j := (v1).toNat) hS_s2 hb1 rfl (zlen hG hb1 (n := 323) rfl rfl) (show 0 ≤ v1 by omega) (by omega) rfl
        refine j_lald hx hG hb1 (by decide) rfl (zlen hG hb1 (n := 323) rfl rfl) (by omega) (by omega) (j := (v1).toNat) rfl rfl dX4_keepWinners_24 ?_
        refine j_last hx hG (zr (k := 0) (t2 := 57) hG ha rfl) (by decide) rfl (zlen hG (zr (k := 0) (t2 := 57) hG ha rfl) (n := 323) rfl rfl) (by omega) (by omega) (j := (v1).toNat) rfl dX4_keepWinners_25 ?_
        obtain ⟨s6, e_s6⟩ : ∃ z, z = zU s2 (gP G a 0) (v1).toNat ((s2 b1 (v1).toNat)) := ⟨_, rfl⟩
        rw [← e_s6]
        have hS_s6 : zSK G s6 := by rw [e_s6]; exact zSK_A hS_s2 (zr (k := 0) (t2 := 57) hG ha rfl) rfl rfl rfl (by omega)
        refine j_iinc hx 2 [(2, .int (zI (v1 + 1))), (0, .ref a), (1, .ref b1)] dX4_keepWinners_26 rfl (by omega) (by decide) rfl ?_
        refine j_goto hx 2 dX4_keepWinners_29 rfl ?_
        exact j_sub [1, 2, 0] [(0, .ref a), (1, .ref b1), (2, .int (zI (v1 + 1)))] rfl (ih_c2_1 (v1 + 1) s6 (by omega) (by omega) hS_s6 (zFr_u (zFr_t zFr_rf hF_s2 (by decide)) e_s6 (zr (k := 0) (t2 := 57) hG ha rfl) (by decide)))
  exact j_sub [1, 2, 0] [(0, .ref a), (1, .ref b1), (2, .int (zI 0))] rfl (c2_1 (2147483648 * 4) 0 s0 (by omega) (by omega) hS0 zFr_rf)

theorem lk_RX5_39 : LkV RX5 39 RX4 yX4_keepWinners cX4_keepWinners 3 none 1 := ⟨km_RX5_39, ki_yX4_keepWinners, ks_RX4_yX4_keepWinners, kn_RX4, kc_yX4_keepWinners, rfl, by decide +kernel, by decide +kernel, by decide +kernel⟩
theorem lk_RX5_47 : LkV RX5 47 RX4 yX4_settle cX4_settle 2 none 1 := ⟨km_RX5_47, ki_yX4_settle, ks_RX4_yX4_settle, kn_RX4, kc_yX4_settle, rfl, by decide +kernel, by decide +kernel, by decide +kernel⟩
set_option maxHeartbeats 4000000 in
set_option maxRecDepth 20000 in
theorem c_X5_bring {E : zE} {l : Launch} (hst : l.stackTraces = false) (a : Nat) (b1 : Nat) (b2 : Nat) (b3 : Nat) : Con E l yX5_bring cX5_bring 4 none { frames := 4, cells := 0, slots := 0, locals := 87 } (fun G s vs => vs = [.ref a, .ref b1, .ref b2, .ref b3] ∧ zGK G ∧ zSK G s ∧ (gT G a = 6) ∧ (gT G b1 = 4) ∧ (gT G b2 = 5) ∧ (gT G b3 = 10)) (fun G s _ => pV (fun G2 s2 => G2 = G ∧ zSK G s2 ∧ zFr [1, 4, 5, 7, 10, 41, 44, 45, 49, 50, 57] G s s2 ∧ True)) := by
  refine Con.mk hst (by decide) (fun G s vs h => by rw [h.1]; exact Nat.le_of_ble_eq_true rfl) ?_
  rintro X G s0 vs ⟨rfl, hG, hS0, ha, hb1, hb2, hb3⟩ rfl hx hq
  show JJ X E 4 G s0 0 0 [(0, .ref a), (1, .ref b1), (2, .ref b2), (3, .ref b3)] 0 []
  refine j_aload_n hx 1 dX5_bring_0 rfl ?_
  refine j_aload_n hx 0 dX5_bring_1 rfl ?_
  refine g6_0 hx hG ha kf_RX5_27 dX5_bring_2 ?_
  refine j_callV hx hG (c_X3_become hst b1 (gP G a 0)) lk_RX5_31 hb1 (by decide) rfl rfl rfl rfl [.ref (gP G a 0)] ⟨rfl, hG, hS0, hb1, (zr (k := 0) (t2 := 4) hG ha rfl)⟩ rfl rfl ⟨by decide, by decide⟩ ⟨by decide, by decide⟩ (k2 := 0) (n2 := 0) rfl rfl (Nat.le_of_ble_eq_true rfl) dX5_bring_5 (kVM (fun s1 hS_s1 hF_s1 q2 => ?_))
  refine j_aload_n hx 3 dX5_bring_8 rfl ?_
  refine j_aload_n hx 0 dX5_bring_9 rfl ?_
  refine g6_1 hx hG ha kf_RX5_10 dX5_bring_10 ?_
  refine j_callV hx hG (c_X9_become hst b3 (gP G a 1)) lk_RX5_35 hb3 (by decide) rfl rfl rfl rfl [.ref (gP G a 1)] ⟨rfl, hG, hS_s1, hb3, (zr (k := 1) (t2 := 10) hG ha rfl)⟩ rfl rfl ⟨by decide, by decide⟩ ⟨by decide, by decide⟩ (k2 := 0) (n2 := 0) rfl rfl (Nat.le_of_ble_eq_true rfl) dX5_bring_13 (kVM (fun s2 hS_s2 hF_s2 q4 => ?_))
  refine j_aload_n hx 2 dX5_bring_16 rfl ?_
  refine j_aload_n hx 0 dX5_bring_17 rfl ?_
  refine g6_2 hx hG ha kf_RX5_18 dX5_bring_18 ?_
  refine j_callV hx hG (c_X4_keepWinners hst b2 (gP G a 2)) lk_RX5_39 hb2 (by decide) rfl rfl rfl rfl [.ref (gP G a 2)] ⟨rfl, hG, hS_s2, hb2, (zr (k := 2) (t2 := 57) hG ha rfl)⟩ rfl rfl ⟨by decide, by decide⟩ ⟨by decide, by decide⟩ (k2 := 0) (n2 := 0) rfl rfl (Nat.le_of_ble_eq_true rfl) dX5_bring_21 (kVM (fun s3 hS_s3 hF_s3 q6 => ?_))
  refine j_aload_n hx 2 dX5_bring_24 rfl ?_
  refine j_aload_n hx 1 dX5_bring_25 rfl ?_
  have f7 := zf hS_s1 hb1 (k := 10) rfl
  refine gN4_10 hx hG hb1 kf_RX5_43 (v := (s1 b1 10)) (by rw [(zFr_g hF_s3 hb1 (by decide)), (zFr_g hF_s2 hb1 (by decide))]) dX5_bring_26 ?_
  refine j_callV hx hG (c_X4_settle hst b2 ((s1 b1 10))) lk_RX5_47 hb2 (by decide) rfl rfl rfl rfl [.int (zI ((s1 b1 10)))] ⟨rfl, hG, hS_s3, hb2, (by omega)⟩ rfl rfl ⟨by decide, by decide⟩ ⟨by decide, by decide⟩ (k2 := 0) (n2 := 0) rfl rfl (Nat.le_of_ble_eq_true rfl) dX5_bring_29 (kVM (fun s4 hS_s4 hF_s4 q9 => ?_))
  exact j_vret hx hq rfl (by decide) (by decide) dX5_bring_32 ⟨rfl, rfl, hS_s4, (zFr_t (zFr_t (zFr_t (zFr_t zFr_rf hF_s1 (by decide)) hF_s2 (by decide)) hF_s3 (by decide)) hF_s4 (by decide)), trivial⟩

theorem lk_RX11_330 : LkV RX11 330 RX5 yX5_bring cX5_bring 4 none 3 := ⟨km_RX11_330, ki_yX5_bring, ks_RX5_yX5_bring, kn_RX5, kc_yX5_bring, rfl, by decide +kernel, by decide +kernel, by decide +kernel⟩
set_option maxHeartbeats 4000000 in
set_option maxRecDepth 20000 in
theorem c_X11_restore {E : zE} {l : Launch} (hst : l.stackTraces = false) (a : Nat) : Con E l yX11_restore cX11_restore 1 (some .int) { frames := 5, cells := 0, slots := 0, locals := 110 } (fun G s vs => vs = [.ref a] ∧ zGK G ∧ zSK G s ∧ (gT G a = 12)) (fun G s _ => pI (fun r G2 s2 => G2 = G ∧ zSK G s2 ∧ zFr [1, 4, 5, 7, 10, 12, 41, 44, 45, 49, 50, 57] G s s2 ∧ ((-2147483648) ≤ r ∧ r ≤ 2147483647))) := by
  refine Con.mk hst (by decide) (fun G s vs h => by rw [h.1]; exact Nat.le_of_ble_eq_true rfl) ?_
  rintro X G s0 vs ⟨rfl, hG, hS0, ha⟩ rfl hx hq
  show JJ X E 1 G s0 0 0 [(0, .ref a)] 0 []
  refine j_aload_n hx 0 dX11_restore_0 rfl ?_
  have f1 := zf hS0 ha (k := 13) rfl
  refine g12_13 hx hG ha kf_RX11_121 rfl dX11_restore_1 ?_
  refine j_if_gt hx 9 dX11_restore_4 rfl (by omega) (fun h2 => ?_) (fun h2 => ?_)
  · skip
    refine j_aload_n hx 0 dX11_restore_9 rfl ?_
    refine j_dup hx dX11_restore_10 rfl ?_
    refine g12_13 hx hG ha kf_RX11_121 rfl dX11_restore_11 ?_
    refine j_iconst hx dX11_restore_14 ?_
    refine j_isub hx (r := (s0 a 13) - 1) dX11_restore_15 (by omega) ?_
    refine p12_13 hx hG ha kf_RX11_121 dX11_restore_16 ?_
    obtain ⟨s1, e_s1⟩ : ∃ z, z = zU s0 a 13 ((s0 a 13) - 1) := ⟨_, rfl⟩
    rw [← e_s1]
    have hS_s1 : zSK G s1 := by rw [e_s1]; exact zSK_F hS0 ha rfl rfl rfl (by omega)
    refine j_aload_n hx 0 dX11_restore_19 rfl ?_
    refine j_aload_n hx 0 dX11_restore_20 rfl ?_
    refine g12_13 hx hG ha kf_RX11_121 (v := (s0 a 13) - 1) (by rw [e_s1, zU_eq]) dX11_restore_21 ?_
    refine j_callV hx hG (c_X11_imageOf hst a ((s0 a 13) - 1)) lk_RX11_322 ha (by decide) rfl rfl rfl rfl [.int (zI ((s0 a 13) - 1))] ⟨rfl, hG, hS_s1, ha, (by omega)⟩ rfl rfl ⟨by decide, by decide⟩ ⟨by decide, by decide⟩ (k2 := 0) (n2 := 0) rfl rfl (Nat.le_of_ble_eq_true rfl) dX11_restore_24 (kRP (fun r3 q4 => ?_))
    refine j_aload_n hx 0 dX11_restore_27 rfl ?_
    refine g12_6 hx hG ha kf_RX11_48 dX11_restore_28 ?_
    refine j_aload_n hx 0 dX11_restore_31 rfl ?_
    refine g12_9 hx hG ha kf_RX11_69 dX11_restore_32 ?_
    refine j_aload_n hx 0 dX11_restore_35 rfl ?_
    refine g12_0 hx hG ha kf_RX11_10 dX11_restore_36 ?_
    refine j_callV hx hG (c_X5_bring hst r3 (gP G a 6) (gP G a 9) (gP G a 0)) lk_RX11_330 q4 (by decide) rfl rfl rfl rfl [.ref (gP G a 6), .ref (gP G a 9), .ref (gP G a 0)] ⟨rfl, hG, hS_s1, q4, (zr (k := 6) (t2 := 4) hG ha rfl), (zr (k := 9) (t2 := 5) hG ha rfl), (zr (k := 0) (t2 := 10) hG ha rfl)⟩ rfl rfl ⟨by decide, by decide⟩ ⟨by decide, by decide⟩ (k2 := 0) (n2 := 0) rfl rfl (Nat.le_of_ble_eq_true rfl) dX11_restore_39 (kVM (fun s2 hS_s2 hF_s2 q6 => ?_))
    refine j_aload_n hx 0 dX11_restore_42 rfl ?_
    refine g12_13 hx hG ha kf_RX11_121 (v := (s0 a 13) - 1) (by rw [(zFr_g hF_s2 ha (by decide)), e_s1, zU_eq]) dX11_restore_43 ?_
    exact j_iret hx hq rfl (by decide) (by decide) dX11_restore_46 ⟨(s0 a 13) - 1, rfl, rfl, hS_s2, (zFr_t (zFr_u zFr_rf e_s1 ha (by decide)) hF_s2 (by decide)), (by omega)⟩
  · skip
    refine j_iconst hx dX11_restore_7 ?_
    exact j_iret hx hq rfl (by decide) (by decide) dX11_restore_8 ⟨(-1), rfl, rfl, hS0, zFr_rf, (by omega)⟩

set_option maxHeartbeats 4000000 in
set_option maxRecDepth 20000 in
theorem c_X11_status {E : zE} {l : Launch} (hst : l.stackTraces = false) (a : Nat) (x1 : Int) : Con E l yX11_status cX11_status 2 (some .int) { frames := 0, cells := 0, slots := 0, locals := 0 } (fun G s vs => vs = [.ref a, .int (zI x1)] ∧ zGK G ∧ zSK G s ∧ (gT G a = 12) ∧ ((-2147483648) ≤ x1 ∧ x1 ≤ 2147483647)) (fun G s _ => pI (fun r G2 s2 => G2 = G ∧ s2 = s ∧ ((-2147483648) ≤ r ∧ r ≤ 2147483647))) := by
  refine Con.mk hst (by decide) (fun G s vs h => by rw [h.1]; exact Nat.le_of_ble_eq_true rfl) ?_
  rintro X G s0 vs ⟨rfl, hG, hS0, ha, hx1⟩ rfl hx hq
  show JJ X E 2 G s0 0 0 [(0, .ref a), (1, .int (zI x1))] 0 []
  refine j_iload_n hx 1 dX11_status_0 rfl ?_
  refine j_if_ne hx 9 dX11_status_1 rfl (by omega) (fun h1 => ?_) (fun h1 => ?_)
  · skip
    refine j_iload_n hx 1 dX11_status_9 rfl ?_
    refine j_iconst hx dX11_status_10 ?_
    refine j_icmp_ne hx 21 dX11_status_11 rfl (by omega) ⟨by decide, by decide⟩ (fun h2 => ?_) (fun h2 => ?_)
    · skip
      refine j_iconst hx dX11_status_21 ?_
      exact j_iret hx hq rfl (by decide) (by decide) dX11_status_22 ⟨(-1), rfl, rfl, rfl, (by omega)⟩
    · skip
      refine j_aload_n hx 0 dX11_status_14 rfl ?_
      have f3 := zf hS0 ha (k := 15) rfl
      refine g12_15 hx hG ha kf_RX11_336 rfl dX11_status_15 ?_
      refine j_goto hx 22 dX11_status_18 rfl ?_
      exact j_iret hx hq rfl (by decide) (by decide) dX11_status_22 ⟨(s0 a 15), rfl, rfl, rfl, (by omega)⟩
  · skip
    refine j_aload_n hx 0 dX11_status_4 rfl ?_
    have f4 := zf hS0 ha (k := 14) rfl
    refine g12_14 hx hG ha kf_RX11_333 rfl dX11_status_5 ?_
    exact j_iret hx hq rfl (by decide) (by decide) dX11_status_8 ⟨(s0 a 14), rfl, rfl, rfl, (by omega)⟩

set_option maxHeartbeats 4000000 in
set_option maxRecDepth 20000 in
theorem c_X11_count {E : zE} {l : Launch} (hst : l.stackTraces = false) (a : Nat) (x1 : Int) : Con E l yX11_count cX11_count 2 (some .int) { frames := 0, cells := 0, slots := 0, locals := 0 } (fun G s vs => vs = [.ref a, .int (zI x1)] ∧ zGK G ∧ zSK G s ∧ (gT G a = 12) ∧ ((-2147483648) ≤ x1 ∧ x1 ≤ 2147483647)) (fun G s _ => pI (fun r G2 s2 => G2 = G ∧ s2 = s ∧ ((-2147483648) ≤ r ∧ r ≤ 2147483647))) := by
  refine Con.mk hst (by decide) (fun G s vs h => by rw [h.1]; exact Nat.le_of_ble_eq_true rfl) ?_
  rintro X G s0 vs ⟨rfl, hG, hS0, ha, hx1⟩ rfl hx hq
  show JJ X E 2 G s0 0 0 [(0, .ref a), (1, .int (zI x1))] 0 []
  refine j_iload_n hx 1 dX11_count_0 rfl ?_
  have h1 : (x1 = 0) ∨ (x1 = 1) ∨ (x1 = 2) ∨ (x1 = 3) ∨ (x1 < 0 ∨ 3 < x1) := by omega
  rcases h1 with h1 | h1 | h1 | h1 | h1
  · skip
    refine j_switchIn hx 32 dX11_count_1 (by omega) (by omega) (by omega) (by rw [h1]; rfl) rfl ?_
    refine j_aload_n hx 0 dX11_count_32 rfl ?_
    have f2 := zf hS0 ha (k := 13) rfl
    refine g12_13 hx hG ha kf_RX11_121 rfl dX11_count_33 ?_
    exact j_iret hx hq rfl (by decide) (by decide) dX11_count_36 ⟨(s0 a 13), rfl, rfl, rfl, (by omega)⟩
  · skip
    refine j_switchIn hx 37 dX11_count_1 (by omega) (by omega) (by omega) (by rw [h1]; rfl) rfl ?_
    refine j_aload_n hx 0 dX11_count_37 rfl ?_
    refine g12_0 hx hG ha kf_RX11_10 dX11_count_38 ?_
    have f3 := zf hS0 (zr (k := 0) (t2 := 10) hG ha rfl) (k := 1) rfl
    refine gN10_1 hx hG (zr (k := 0) (t2 := 10) hG ha rfl) kf_RX11_94 rfl dX11_count_41 ?_
    exact j_iret hx hq rfl (by decide) (by decide) dX11_count_44 ⟨(s0 (gP G a 0) 1), rfl, rfl, rfl, (by omega)⟩
  · skip
    refine j_switchIn hx 45 dX11_count_1 (by omega) (by omega) (by omega) (by rw [h1]; rfl) rfl ?_
    refine j_aload_n hx 0 dX11_count_45 rfl ?_
    refine g12_4 hx hG ha kf_RX11_36 dX11_count_46 ?_
    have f4 := zf hS0 (zr (k := 4) (t2 := 2) hG ha rfl) (k := 2) rfl
    refine gN2_2 hx hG (zr (k := 4) (t2 := 2) hG ha rfl) kf_RX11_118 rfl dX11_count_49 ?_
    exact j_iret hx hq rfl (by decide) (by decide) dX11_count_52 ⟨(s0 (gP G a 4) 2), rfl, rfl, rfl, (by omega)⟩
  · skip
    refine j_switchIn hx 53 dX11_count_1 (by omega) (by omega) (by omega) (by rw [h1]; rfl) rfl ?_
    refine j_aload_n hx 0 dX11_count_53 rfl ?_
    refine g12_6 hx hG ha kf_RX11_48 dX11_count_54 ?_
    have f5 := zf hS0 (zr (k := 6) (t2 := 4) hG ha rfl) (k := 10) rfl
    refine gN4_10 hx hG (zr (k := 6) (t2 := 4) hG ha rfl) kf_RX11_165 rfl dX11_count_57 ?_
    refine j_aload_n hx 0 dX11_count_60 rfl ?_
    refine g12_9 hx hG ha kf_RX11_69 dX11_count_61 ?_
    have f6 := zf hS0 (zr (k := 9) (t2 := 5) hG ha rfl) (k := 5) rfl
    refine gN5_5 hx hG (zr (k := 9) (t2 := 5) hG ha rfl) kf_RX11_339 rfl dX11_count_64 ?_
    refine j_isub hx (r := (s0 (gP G a 6) 10) - (s0 (gP G a 9) 5)) dX11_count_67 (by omega) ?_
    refine j_norm (fun v7 f8 f9 f10 => ?_)
    exact j_iret hx hq rfl (by decide) (by decide) dX11_count_68 ⟨v7, rfl, rfl, rfl, (by omega)⟩
  · skip
    refine j_switchOut hx 69 dX11_count_1 (by omega) (by omega) rfl ?_
    refine j_iconst hx dX11_count_69 ?_
    exact j_iret hx hq rfl (by decide) (by decide) dX11_count_70 ⟨(-1), rfl, rfl, rfl, (by omega)⟩
