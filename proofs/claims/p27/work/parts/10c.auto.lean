theorem lk_RX12_219 : LkV RX12 219 RX12 yX12_readNumber cX12_readNumber 6 (some .int) 2 := ⟨km_RX12_219, ki_yX12_readNumber, ks_RX12_yX12_readNumber, kn_RX12, kc_yX12_readNumber, rfl, by decide +kernel, by decide +kernel, by decide +kernel⟩
theorem lk_RX12_225 : LkV RX12 225 RX12 yX12_readCards cX12_readCards 2 none 1 := ⟨km_RX12_225, ki_yX12_readCards, ks_RX12_yX12_readCards, kn_RX12, kc_yX12_readCards, rfl, by decide +kernel, by decide +kernel, by decide +kernel⟩
set_option maxHeartbeats 4000000 in
set_option maxRecDepth 20000 in
theorem c_X12_readClause {E : zE} {l : Launch} (hst : l.stackTraces = false) (a : Nat) (x1 : Int) : Con E l yX12_readClause cX12_readClause 4 none { frames := 6, cells := 0, slots := 0, locals := 242 } (fun G s vs => vs = [.ref a, .int (zI x1)] ∧ zGK G ∧ zSK G s ∧ (gT G a = 13) ∧ ((-2147483648) ≤ x1 ∧ x1 ≤ 2147483647) ∧ (zQi (s a 5) (s (gP G a 10)) (s a 21)) ∧ (s (gP G a 13) 0 + s (gP G a 13) 1 + s (gP G a 13) 2 = s a 22) ∧ (x1 = tOf 0 → s a 21 ≤ 2) ∧ (x1 = tOf 1 → s a 23 ≤ 11)) (fun G s _ => pV (fun G2 s2 => G2 = G ∧ zSK G s2 ∧ zFr [13, 73, 74, 75, 76, 77, 78, 79] G s s2 ∧ s a 4 ≤ s2 a 4 ∧ 0 ≤ s a 5 → 0 ≤ s2 a 5 ∧ zQi (s2 a 5) (s2 (gP G a 10)) (s2 a 21) ∧ s2 (gP G a 13) 0 + s2 (gP G a 13) 1 + s2 (gP G a 13) 2 = s2 a 22 ∧ s2 a 4 ≤ s a 4 ∨ s2 a 4 ≤ s a 3 ∧ s2 a 0 = s a 0 ∧ s2 a 3 = s a 3 ∧ s2 a 7 = s a 7 ∧ s2 a 24 = s a 24 ∧ s2 a 38 = s a 38 ∧ s2 a 51 = s a 51 ∧ s2 a 52 = s a 52)) := by
  refine Con.mk hst (by decide) (fun G s vs h => by rw [h.1]; exact Nat.le_of_ble_eq_true rfl) ?_
  rintro X G s0 vs ⟨rfl, hG, hS0, ha, hx1, e0, e1, e2, e3⟩ rfl hx hq
  show JJ X E 4 G s0 0 0 [(0, .ref a), (1, .int (zI x1))] 0 []
  refine j_iload_n hx 1 dX12_readClause_0 rfl ?_
  refine j_ldcT hx (i := 0) 20 (by decide) rfl rfl rfl dX12_readClause_1 ?_
  refine j_callS hx (c_X12_of hst 0) lk_RX12_215 [.ref (zTa E 0)] ⟨rfl, hG, hS0, (by decide)⟩ rfl rfl ⟨by decide, by decide⟩ ⟨by decide, by decide⟩ (k2 := 0) (n2 := 0) rfl rfl (Nat.le_of_ble_eq_true rfl) dX12_readClause_3 (kIP (fun v1 q2 => ?_))
  refine j_icmp_ne hx 86 dX12_readClause_6 rfl (by omega) (by omega) (fun h3 => ?_) (fun h3 => ?_)
  · skip
    refine j_iload_n hx 1 dX12_readClause_86 rfl ?_
    refine j_ldcT hx (i := 2) 21 (by decide) rfl rfl rfl dX12_readClause_87 ?_
    refine j_callS hx (c_X12_of hst 2) lk_RX12_215 [.ref (zTa E 2)] ⟨rfl, hG, hS0, (by decide)⟩ rfl rfl ⟨by decide, by decide⟩ ⟨by decide, by decide⟩ (k2 := 0) (n2 := 0) rfl rfl (Nat.le_of_ble_eq_true rfl) dX12_readClause_89 (kIP (fun v4 q5 => ?_))
    refine j_icmp_ne hx 115 dX12_readClause_92 rfl (by omega) (by omega) (fun h6 => ?_) (fun h6 => ?_)
    · skip
      refine j_iload_n hx 1 dX12_readClause_115 rfl ?_
      refine j_ldcT hx (i := 3) 22 (by decide) rfl rfl rfl dX12_readClause_116 ?_
      refine j_callS hx (c_X12_of hst 3) lk_RX12_215 [.ref (zTa E 3)] ⟨rfl, hG, hS0, (by decide)⟩ rfl rfl ⟨by decide, by decide⟩ ⟨by decide, by decide⟩ (k2 := 0) (n2 := 0) rfl rfl (Nat.le_of_ble_eq_true rfl) dX12_readClause_118 (kIP (fun v7 q8 => ?_))
      refine j_icmp_ne hx 161 dX12_readClause_121 rfl (by omega) (by omega) (fun h9 => ?_) (fun h9 => ?_)
      · skip
        refine j_iload_n hx 1 dX12_readClause_161 rfl ?_
        refine j_ldcT hx (i := 4) 26 (by decide) rfl rfl rfl dX12_readClause_162 ?_
        refine j_callS hx (c_X12_of hst 4) lk_RX12_215 [.ref (zTa E 4)] ⟨rfl, hG, hS0, (by decide)⟩ rfl rfl ⟨by decide, by decide⟩ ⟨by decide, by decide⟩ (k2 := 0) (n2 := 0) rfl rfl (Nat.le_of_ble_eq_true rfl) dX12_readClause_164 (kIP (fun v10 q11 => ?_))
        refine j_icmp_ne hx 230 dX12_readClause_167 rfl (by omega) (by omega) (fun h12 => ?_) (fun h12 => ?_)
        · skip
          refine j_iload_n hx 1 dX12_readClause_230 rfl ?_
          refine j_ldcT hx (i := 1) 27 (by decide) rfl rfl rfl dX12_readClause_231 ?_
          refine j_callS hx (c_X12_of hst 1) lk_RX12_215 [.ref (zTa E 1)] ⟨rfl, hG, hS0, (by decide)⟩ rfl rfl ⟨by decide, by decide⟩ ⟨by decide, by decide⟩ (k2 := 0) (n2 := 0) rfl rfl (Nat.le_of_ble_eq_true rfl) dX12_readClause_233 (kIP (fun v13 q14 => ?_))
          refine j_icmp_ne hx 268 dX12_readClause_236 rfl (by omega) (by omega) (fun h15 => ?_) (fun h15 => ?_)
          · skip
            refine j_aload_n hx 0 dX12_readClause_268 rfl ?_
            refine g13_15 hx hG ha kf_RX12_38 dX12_readClause_269 ?_
            refine j_iload_n hx 1 dX12_readClause_272 rfl ?_
            refine j_ldcT hx (i := 5) 23 (by decide) rfl rfl rfl dX12_readClause_273 ?_
            refine j_callS hx (c_X12_of hst 5) lk_RX12_215 [.ref (zTa E 5)] ⟨rfl, hG, hS0, (by decide)⟩ rfl rfl ⟨by decide, by decide⟩ ⟨by decide, by decide⟩ (k2 := 0) (n2 := 0) rfl rfl (Nat.le_of_ble_eq_true rfl) dX12_readClause_275 (kIP (fun v16 q17 => ?_))
            refine j_icmp_ne hx 285 dX12_readClause_278 rfl (by omega) (by omega) (fun h18 => ?_) (fun h18 => ?_)
            · skip
              refine j_iload_n hx 1 dX12_readClause_285 rfl ?_
              refine j_ldcT hx (i := 6) 24 (by decide) rfl rfl rfl dX12_readClause_286 ?_
              refine j_callS hx (c_X12_of hst 6) lk_RX12_215 [.ref (zTa E 6)] ⟨rfl, hG, hS0, (by decide)⟩ rfl rfl ⟨by decide, by decide⟩ ⟨by decide, by decide⟩ (k2 := 0) (n2 := 0) rfl rfl (Nat.le_of_ble_eq_true rfl) dX12_readClause_288 (kIP (fun v19 q20 => ?_))
              refine j_icmp_ne hx 298 dX12_readClause_291 rfl (by omega) (by omega) (fun h21 => ?_) (fun h21 => ?_)
              · skip
                refine j_iconst hx dX12_readClause_298 ?_
                refine j_aload_n hx 0 dX12_readClause_299 rfl ?_
                refine j_iconst hx dX12_readClause_300 ?_
                refine j_iconst hx dX12_readClause_301 ?_
                have f22 := zf hS0 ha (k := 4) rfl
                have f23 := zf hS0 ha (k := 5) rfl
                have f24 := zf hS0 ha (k := 3) rfl
                have f25 := zf hS0 ha (k := 0) rfl
                have f26 := zf hS0 ha (k := 7) rfl
                have f27 := zf hS0 ha (k := 21) rfl
                have f28 := zf hS0 ha (k := 22) rfl
                have f29 := zf hS0 ha (k := 23) rfl
                have f30 := zf hS0 ha (k := 24) rfl
                have f31 := zf hS0 ha (k := 38) rfl
                have f32 := zf hS0 ha (k := 51) rfl
                have f33 := zf hS0 ha (k := 52) rfl
                refine j_callV hx hG (c_X12_readNumber hst a 0 2) lk_RX12_219 ha (by decide) rfl rfl rfl rfl [.int (zI 0), .int (zI 2)] ⟨rfl, hG, hS0, ha, (by omega), (by omega)⟩ rfl rfl ⟨by decide, by decide⟩ ⟨by decide, by decide⟩ (k2 := 0) (n2 := 0) rfl rfl (Nat.le_of_ble_eq_true rfl) dX12_readClause_302 (kIM (fun v34 s1 hS_s1 hF_s1 q35 => ?_))
                refine j_iast hx hG (zr (k := 15) (t2 := 78) hG ha rfl) (by decide) rfl (zlen hG (zr (k := 15) (t2 := 78) hG ha rfl) (n := 3) rfl rfl) (by omega) (by omega) (j := 2) rfl dX12_readClause_305 ?_
                obtain ⟨s2, e_s2⟩ : ∃ z, z = zU s1 (gP G a 15) 2 v34 := ⟨_, rfl⟩
                rw [← e_s2]
                have hS_s2 : zSK G s2 := by rw [e_s2]; exact zSK_A hS_s1 (zr (k := 15) (t2 := 78) hG ha rfl) rfl rfl rfl (by omega)
                have g36 : s2 a 4 = s1 a 4 := (by rw [e_s2, zU_at (Or.inl (zne (zr (k := 15) (t2 := 78) hG ha rfl) ha (by decide)))])
                have f37 := zf hS_s1 ha (k := 4) rfl
                have g38 : s2 a 5 = s1 a 5 := (by rw [e_s2, zU_at (Or.inl (zne (zr (k := 15) (t2 := 78) hG ha rfl) ha (by decide)))])
                have f39 := zf hS_s1 ha (k := 5) rfl
                have g40 : s2 (gP G a 13) 0 = s0 (gP G a 13) 0 := (by rw [e_s2, zU_at (Or.inl (zne (zr (k := 15) (t2 := 78) hG ha rfl) (zr (k := 13) (t2 := 76) hG ha rfl) (by decide))), (zFr_g hF_s1 (zr (k := 13) (t2 := 76) hG ha rfl) (by decide))])
                have g41 : s2 (gP G a 13) 1 = s0 (gP G a 13) 1 := (by rw [e_s2, zU_at (Or.inl (zne (zr (k := 15) (t2 := 78) hG ha rfl) (zr (k := 13) (t2 := 76) hG ha rfl) (by decide))), (zFr_g hF_s1 (zr (k := 13) (t2 := 76) hG ha rfl) (by decide))])
                have g42 : s2 (gP G a 13) 2 = s0 (gP G a 13) 2 := (by rw [e_s2, zU_at (Or.inl (zne (zr (k := 15) (t2 := 78) hG ha rfl) (zr (k := 13) (t2 := 76) hG ha rfl) (by decide))), (zFr_g hF_s1 (zr (k := 13) (t2 := 76) hG ha rfl) (by decide))])
                have g43 : s2 a 22 = s1 a 22 := (by rw [e_s2, zU_at (Or.inl (zne (zr (k := 15) (t2 := 78) hG ha rfl) ha (by decide)))])
                have f44 := zf hS_s1 ha (k := 22) rfl
                have g45 : s2 a 0 = s1 a 0 := (by rw [e_s2, zU_at (Or.inl (zne (zr (k := 15) (t2 := 78) hG ha rfl) ha (by decide)))])
                have f46 := zf hS_s1 ha (k := 0) rfl
                have g47 : s2 a 3 = s1 a 3 := (by rw [e_s2, zU_at (Or.inl (zne (zr (k := 15) (t2 := 78) hG ha rfl) ha (by decide)))])
                have f48 := zf hS_s1 ha (k := 3) rfl
                have g49 : s2 a 7 = s1 a 7 := (by rw [e_s2, zU_at (Or.inl (zne (zr (k := 15) (t2 := 78) hG ha rfl) ha (by decide)))])
                have f50 := zf hS_s1 ha (k := 7) rfl
                have g51 : s2 a 24 = s1 a 24 := (by rw [e_s2, zU_at (Or.inl (zne (zr (k := 15) (t2 := 78) hG ha rfl) ha (by decide)))])
                have f52 := zf hS_s1 ha (k := 24) rfl
                have g53 : s2 a 38 = s1 a 38 := (by rw [e_s2, zU_at (Or.inl (zne (zr (k := 15) (t2 := 78) hG ha rfl) ha (by decide)))])
                have f54 := zf hS_s1 ha (k := 38) rfl
                have g55 : s2 a 51 = s1 a 51 := (by rw [e_s2, zU_at (Or.inl (zne (zr (k := 15) (t2 := 78) hG ha rfl) ha (by decide)))])
                have f56 := zf hS_s1 ha (k := 51) rfl
                have g57 : s2 a 52 = s1 a 52 := (by rw [e_s2, zU_at (Or.inl (zne (zr (k := 15) (t2 := 78) hG ha rfl) ha (by decide)))])
                have f58 := zf hS_s1 ha (k := 52) rfl
                exact j_vret hx hq rfl (by decide) (by decide) dX12_readClause_306 ⟨rfl, rfl, hS_s2, (zFr_u (zFr_t zFr_rf hF_s1 (by decide)) e_s2 (zr (k := 15) (t2 := 78) hG ha rfl) (by decide)), ⟨by omega, by omega, (by rw [e_s2, zU_ne (zne (zr (k := 10) (t2 := 73) hG ha rfl) (zr (k := 15) (t2 := 78) hG ha rfl) (by decide)), (zFr_g hF_s1 (zr (k := 10) (t2 := 73) hG ha rfl) (by decide))]; exact (zQi_k e0 (by omega) (by omega))), by omega, by omega, by omega, by omega, by omega, by omega, by omega, by omega, by omega⟩⟩
              · skip
                refine j_iconst hx dX12_readClause_294 ?_
                refine j_goto hx 299 dX12_readClause_295 rfl ?_
                refine j_aload_n hx 0 dX12_readClause_299 rfl ?_
                refine j_iconst hx dX12_readClause_300 ?_
                refine j_iconst hx dX12_readClause_301 ?_
                have f59 := zf hS0 ha (k := 4) rfl
                have f60 := zf hS0 ha (k := 5) rfl
                have f61 := zf hS0 ha (k := 3) rfl
                have f62 := zf hS0 ha (k := 0) rfl
                have f63 := zf hS0 ha (k := 7) rfl
                have f64 := zf hS0 ha (k := 21) rfl
                have f65 := zf hS0 ha (k := 22) rfl
                have f66 := zf hS0 ha (k := 23) rfl
                have f67 := zf hS0 ha (k := 24) rfl
                have f68 := zf hS0 ha (k := 38) rfl
                have f69 := zf hS0 ha (k := 51) rfl
                have f70 := zf hS0 ha (k := 52) rfl
                refine j_callV hx hG (c_X12_readNumber hst a 0 2) lk_RX12_219 ha (by decide) rfl rfl rfl rfl [.int (zI 0), .int (zI 2)] ⟨rfl, hG, hS0, ha, (by omega), (by omega)⟩ rfl rfl ⟨by decide, by decide⟩ ⟨by decide, by decide⟩ (k2 := 0) (n2 := 0) rfl rfl (Nat.le_of_ble_eq_true rfl) dX12_readClause_302 (kIM (fun v71 s3 hS_s3 hF_s3 q72 => ?_))
                refine j_iast hx hG (zr (k := 15) (t2 := 78) hG ha rfl) (by decide) rfl (zlen hG (zr (k := 15) (t2 := 78) hG ha rfl) (n := 3) rfl rfl) (by omega) (by omega) (j := 1) rfl dX12_readClause_305 ?_
                obtain ⟨s4, e_s4⟩ : ∃ z, z = zU s3 (gP G a 15) 1 v71 := ⟨_, rfl⟩
                rw [← e_s4]
                have hS_s4 : zSK G s4 := by rw [e_s4]; exact zSK_A hS_s3 (zr (k := 15) (t2 := 78) hG ha rfl) rfl rfl rfl (by omega)
                have g73 : s4 a 4 = s3 a 4 := (by rw [e_s4, zU_at (Or.inl (zne (zr (k := 15) (t2 := 78) hG ha rfl) ha (by decide)))])
                have f74 := zf hS_s3 ha (k := 4) rfl
                have g75 : s4 a 5 = s3 a 5 := (by rw [e_s4, zU_at (Or.inl (zne (zr (k := 15) (t2 := 78) hG ha rfl) ha (by decide)))])
                have f76 := zf hS_s3 ha (k := 5) rfl
                have g77 : s4 (gP G a 13) 0 = s0 (gP G a 13) 0 := (by rw [e_s4, zU_at (Or.inl (zne (zr (k := 15) (t2 := 78) hG ha rfl) (zr (k := 13) (t2 := 76) hG ha rfl) (by decide))), (zFr_g hF_s3 (zr (k := 13) (t2 := 76) hG ha rfl) (by decide))])
                have g78 : s4 (gP G a 13) 1 = s0 (gP G a 13) 1 := (by rw [e_s4, zU_at (Or.inl (zne (zr (k := 15) (t2 := 78) hG ha rfl) (zr (k := 13) (t2 := 76) hG ha rfl) (by decide))), (zFr_g hF_s3 (zr (k := 13) (t2 := 76) hG ha rfl) (by decide))])
                have g79 : s4 (gP G a 13) 2 = s0 (gP G a 13) 2 := (by rw [e_s4, zU_at (Or.inl (zne (zr (k := 15) (t2 := 78) hG ha rfl) (zr (k := 13) (t2 := 76) hG ha rfl) (by decide))), (zFr_g hF_s3 (zr (k := 13) (t2 := 76) hG ha rfl) (by decide))])
                have g80 : s4 a 22 = s3 a 22 := (by rw [e_s4, zU_at (Or.inl (zne (zr (k := 15) (t2 := 78) hG ha rfl) ha (by decide)))])
                have f81 := zf hS_s3 ha (k := 22) rfl
                have g82 : s4 a 0 = s3 a 0 := (by rw [e_s4, zU_at (Or.inl (zne (zr (k := 15) (t2 := 78) hG ha rfl) ha (by decide)))])
                have f83 := zf hS_s3 ha (k := 0) rfl
                have g84 : s4 a 3 = s3 a 3 := (by rw [e_s4, zU_at (Or.inl (zne (zr (k := 15) (t2 := 78) hG ha rfl) ha (by decide)))])
                have f85 := zf hS_s3 ha (k := 3) rfl
                have g86 : s4 a 7 = s3 a 7 := (by rw [e_s4, zU_at (Or.inl (zne (zr (k := 15) (t2 := 78) hG ha rfl) ha (by decide)))])
                have f87 := zf hS_s3 ha (k := 7) rfl
                have g88 : s4 a 24 = s3 a 24 := (by rw [e_s4, zU_at (Or.inl (zne (zr (k := 15) (t2 := 78) hG ha rfl) ha (by decide)))])
                have f89 := zf hS_s3 ha (k := 24) rfl
                have g90 : s4 a 38 = s3 a 38 := (by rw [e_s4, zU_at (Or.inl (zne (zr (k := 15) (t2 := 78) hG ha rfl) ha (by decide)))])
                have f91 := zf hS_s3 ha (k := 38) rfl
                have g92 : s4 a 51 = s3 a 51 := (by rw [e_s4, zU_at (Or.inl (zne (zr (k := 15) (t2 := 78) hG ha rfl) ha (by decide)))])
                have f93 := zf hS_s3 ha (k := 51) rfl
                have g94 : s4 a 52 = s3 a 52 := (by rw [e_s4, zU_at (Or.inl (zne (zr (k := 15) (t2 := 78) hG ha rfl) ha (by decide)))])
                have f95 := zf hS_s3 ha (k := 52) rfl
                exact j_vret hx hq rfl (by decide) (by decide) dX12_readClause_306 ⟨rfl, rfl, hS_s4, (zFr_u (zFr_t zFr_rf hF_s3 (by decide)) e_s4 (zr (k := 15) (t2 := 78) hG ha rfl) (by decide)), ⟨by omega, by omega, (by rw [e_s4, zU_ne (zne (zr (k := 10) (t2 := 73) hG ha rfl) (zr (k := 15) (t2 := 78) hG ha rfl) (by decide)), (zFr_g hF_s3 (zr (k := 10) (t2 := 73) hG ha rfl) (by decide))]; exact (zQi_k e0 (by omega) (by omega))), by omega, by omega, by omega, by omega, by omega, by omega, by omega, by omega, by omega⟩⟩
            · skip
              refine j_iconst hx dX12_readClause_281 ?_
              refine j_goto hx 299 dX12_readClause_282 rfl ?_
              refine j_aload_n hx 0 dX12_readClause_299 rfl ?_
              refine j_iconst hx dX12_readClause_300 ?_
              refine j_iconst hx dX12_readClause_301 ?_
              have f96 := zf hS0 ha (k := 4) rfl
              have f97 := zf hS0 ha (k := 5) rfl
              have f98 := zf hS0 ha (k := 3) rfl
              have f99 := zf hS0 ha (k := 0) rfl
              have f100 := zf hS0 ha (k := 7) rfl
              have f101 := zf hS0 ha (k := 21) rfl
              have f102 := zf hS0 ha (k := 22) rfl
              have f103 := zf hS0 ha (k := 23) rfl
              have f104 := zf hS0 ha (k := 24) rfl
              have f105 := zf hS0 ha (k := 38) rfl
              have f106 := zf hS0 ha (k := 51) rfl
              have f107 := zf hS0 ha (k := 52) rfl
              refine j_callV hx hG (c_X12_readNumber hst a 0 2) lk_RX12_219 ha (by decide) rfl rfl rfl rfl [.int (zI 0), .int (zI 2)] ⟨rfl, hG, hS0, ha, (by omega), (by omega)⟩ rfl rfl ⟨by decide, by decide⟩ ⟨by decide, by decide⟩ (k2 := 0) (n2 := 0) rfl rfl (Nat.le_of_ble_eq_true rfl) dX12_readClause_302 (kIM (fun v108 s5 hS_s5 hF_s5 q109 => ?_))
              refine j_iast hx hG (zr (k := 15) (t2 := 78) hG ha rfl) (by decide) rfl (zlen hG (zr (k := 15) (t2 := 78) hG ha rfl) (n := 3) rfl rfl) (by omega) (by omega) (j := 0) rfl dX12_readClause_305 ?_
              obtain ⟨s6, e_s6⟩ : ∃ z, z = zU s5 (gP G a 15) 0 v108 := ⟨_, rfl⟩
              rw [← e_s6]
              have hS_s6 : zSK G s6 := by rw [e_s6]; exact zSK_A hS_s5 (zr (k := 15) (t2 := 78) hG ha rfl) rfl rfl rfl (by omega)
              have g110 : s6 a 4 = s5 a 4 := (by rw [e_s6, zU_at (Or.inl (zne (zr (k := 15) (t2 := 78) hG ha rfl) ha (by decide)))])
              have f111 := zf hS_s5 ha (k := 4) rfl
              have g112 : s6 a 5 = s5 a 5 := (by rw [e_s6, zU_at (Or.inl (zne (zr (k := 15) (t2 := 78) hG ha rfl) ha (by decide)))])
              have f113 := zf hS_s5 ha (k := 5) rfl
              have g114 : s6 (gP G a 13) 0 = s0 (gP G a 13) 0 := (by rw [e_s6, zU_at (Or.inl (zne (zr (k := 15) (t2 := 78) hG ha rfl) (zr (k := 13) (t2 := 76) hG ha rfl) (by decide))), (zFr_g hF_s5 (zr (k := 13) (t2 := 76) hG ha rfl) (by decide))])
              have g115 : s6 (gP G a 13) 1 = s0 (gP G a 13) 1 := (by rw [e_s6, zU_at (Or.inl (zne (zr (k := 15) (t2 := 78) hG ha rfl) (zr (k := 13) (t2 := 76) hG ha rfl) (by decide))), (zFr_g hF_s5 (zr (k := 13) (t2 := 76) hG ha rfl) (by decide))])
              have g116 : s6 (gP G a 13) 2 = s0 (gP G a 13) 2 := (by rw [e_s6, zU_at (Or.inl (zne (zr (k := 15) (t2 := 78) hG ha rfl) (zr (k := 13) (t2 := 76) hG ha rfl) (by decide))), (zFr_g hF_s5 (zr (k := 13) (t2 := 76) hG ha rfl) (by decide))])
              have g117 : s6 a 22 = s5 a 22 := (by rw [e_s6, zU_at (Or.inl (zne (zr (k := 15) (t2 := 78) hG ha rfl) ha (by decide)))])
              have f118 := zf hS_s5 ha (k := 22) rfl
              have g119 : s6 a 0 = s5 a 0 := (by rw [e_s6, zU_at (Or.inl (zne (zr (k := 15) (t2 := 78) hG ha rfl) ha (by decide)))])
              have f120 := zf hS_s5 ha (k := 0) rfl
              have g121 : s6 a 3 = s5 a 3 := (by rw [e_s6, zU_at (Or.inl (zne (zr (k := 15) (t2 := 78) hG ha rfl) ha (by decide)))])
              have f122 := zf hS_s5 ha (k := 3) rfl
              have g123 : s6 a 7 = s5 a 7 := (by rw [e_s6, zU_at (Or.inl (zne (zr (k := 15) (t2 := 78) hG ha rfl) ha (by decide)))])
              have f124 := zf hS_s5 ha (k := 7) rfl
              have g125 : s6 a 24 = s5 a 24 := (by rw [e_s6, zU_at (Or.inl (zne (zr (k := 15) (t2 := 78) hG ha rfl) ha (by decide)))])
              have f126 := zf hS_s5 ha (k := 24) rfl
              have g127 : s6 a 38 = s5 a 38 := (by rw [e_s6, zU_at (Or.inl (zne (zr (k := 15) (t2 := 78) hG ha rfl) ha (by decide)))])
              have f128 := zf hS_s5 ha (k := 38) rfl
              have g129 : s6 a 51 = s5 a 51 := (by rw [e_s6, zU_at (Or.inl (zne (zr (k := 15) (t2 := 78) hG ha rfl) ha (by decide)))])
              have f130 := zf hS_s5 ha (k := 51) rfl
              have g131 : s6 a 52 = s5 a 52 := (by rw [e_s6, zU_at (Or.inl (zne (zr (k := 15) (t2 := 78) hG ha rfl) ha (by decide)))])
              have f132 := zf hS_s5 ha (k := 52) rfl
              exact j_vret hx hq rfl (by decide) (by decide) dX12_readClause_306 ⟨rfl, rfl, hS_s6, (zFr_u (zFr_t zFr_rf hF_s5 (by decide)) e_s6 (zr (k := 15) (t2 := 78) hG ha rfl) (by decide)), ⟨by omega, by omega, (by rw [e_s6, zU_ne (zne (zr (k := 10) (t2 := 73) hG ha rfl) (zr (k := 15) (t2 := 78) hG ha rfl) (by decide)), (zFr_g hF_s5 (zr (k := 10) (t2 := 73) hG ha rfl) (by decide))]; exact (zQi_k e0 (by omega) (by omega))), by omega, by omega, by omega, by omega, by omega, by omega, by omega, by omega, by omega⟩⟩
          · skip
            refine j_aload_n hx 0 dX12_readClause_239 rfl ?_
            refine g13_16 hx hG ha kf_RX12_41 dX12_readClause_240 ?_
            refine j_aload_n hx 0 dX12_readClause_243 rfl ?_
            have f133 := zf hS0 ha (k := 23) rfl
            refine g13_23 hx hG ha kf_RX12_186 rfl dX12_readClause_244 ?_
            refine j_aload_n hx 0 dX12_readClause_247 rfl ?_
            refine j_iconst hx dX12_readClause_248 ?_
            refine j_bipush hx dX12_readClause_249 rfl ?_
            have f134 := zf hS0 ha (k := 4) rfl
            have f135 := zf hS0 ha (k := 5) rfl
            have f136 := zf hS0 ha (k := 3) rfl
            have f137 := zf hS0 ha (k := 0) rfl
            have f138 := zf hS0 ha (k := 7) rfl
            have f139 := zf hS0 ha (k := 21) rfl
            have f140 := zf hS0 ha (k := 22) rfl
            have f141 := zf hS0 ha (k := 24) rfl
            have f142 := zf hS0 ha (k := 38) rfl
            have f143 := zf hS0 ha (k := 51) rfl
            have f144 := zf hS0 ha (k := 52) rfl
            refine j_callV hx hG (c_X12_readNumber hst a 0 9) lk_RX12_219 ha (by decide) rfl rfl rfl rfl [.int (zI 0), .int (zI 9)] ⟨rfl, hG, hS0, ha, (by omega), (by omega)⟩ rfl rfl ⟨by decide, by decide⟩ ⟨by decide, by decide⟩ (k2 := 0) (n2 := 0) rfl rfl (Nat.le_of_ble_eq_true rfl) dX12_readClause_251 (kIM (fun v145 s7 hS_s7 hF_s7 q146 => ?_))
            refine j_iast hx hG (zr (k := 16) (t2 := 79) hG ha rfl) (by decide) rfl (zlen hG (zr (k := 16) (t2 := 79) hG ha rfl) (n := 12) rfl rfl) (by omega) (by omega) (j := ((s0 a 23)).toNat) rfl dX12_readClause_254 ?_
            obtain ⟨s8, e_s8⟩ : ∃ z, z = zU s7 (gP G a 16) ((s0 a 23)).toNat v145 := ⟨_, rfl⟩
            rw [← e_s8]
            have hS_s8 : zSK G s8 := by rw [e_s8]; exact zSK_A hS_s7 (zr (k := 16) (t2 := 79) hG ha rfl) rfl rfl rfl (by omega)
            refine j_aload_n hx 0 dX12_readClause_255 rfl ?_
            refine j_dup hx dX12_readClause_256 rfl ?_
            have f147 := zf hS_s7 ha (k := 23) rfl
            refine g13_23 hx hG ha kf_RX12_186 (v := (s7 a 23)) (by rw [e_s8, zU_at (Or.inl (zne (zr (k := 16) (t2 := 79) hG ha rfl) ha (by decide)))]) dX12_readClause_257 ?_
            refine j_iconst hx dX12_readClause_260 ?_
            refine j_iadd hx (r := (s7 a 23) + 1) dX12_readClause_261 (by omega) ?_
            refine p13_23 hx hG ha kf_RX12_186 dX12_readClause_262 ?_
            obtain ⟨s9, e_s9⟩ : ∃ z, z = zU s8 a 23 ((s7 a 23) + 1) := ⟨_, rfl⟩
            rw [← e_s9]
            have hS_s9 : zSK G s9 := by rw [e_s9]; exact zSK_F hS_s8 ha rfl rfl rfl (by omega)
            refine j_goto hx 306 dX12_readClause_265 rfl ?_
            have g148 : s9 a 4 = s7 a 4 := (by rw [e_s9, zU_at (Or.inr (by decide)), e_s8, zU_at (Or.inl (zne (zr (k := 16) (t2 := 79) hG ha rfl) ha (by decide)))])
            have f149 := zf hS_s7 ha (k := 4) rfl
            have g150 : s9 a 5 = s7 a 5 := (by rw [e_s9, zU_at (Or.inr (by decide)), e_s8, zU_at (Or.inl (zne (zr (k := 16) (t2 := 79) hG ha rfl) ha (by decide)))])
            have f151 := zf hS_s7 ha (k := 5) rfl
            have g152 : s9 (gP G a 13) 0 = s0 (gP G a 13) 0 := (by rw [e_s9, zU_at (Or.inl (zne ha (zr (k := 13) (t2 := 76) hG ha rfl) (by decide))), e_s8, zU_at (Or.inl (zne (zr (k := 16) (t2 := 79) hG ha rfl) (zr (k := 13) (t2 := 76) hG ha rfl) (by decide))), (zFr_g hF_s7 (zr (k := 13) (t2 := 76) hG ha rfl) (by decide))])
            have g153 : s9 (gP G a 13) 1 = s0 (gP G a 13) 1 := (by rw [e_s9, zU_at (Or.inl (zne ha (zr (k := 13) (t2 := 76) hG ha rfl) (by decide))), e_s8, zU_at (Or.inl (zne (zr (k := 16) (t2 := 79) hG ha rfl) (zr (k := 13) (t2 := 76) hG ha rfl) (by decide))), (zFr_g hF_s7 (zr (k := 13) (t2 := 76) hG ha rfl) (by decide))])
            have g154 : s9 (gP G a 13) 2 = s0 (gP G a 13) 2 := (by rw [e_s9, zU_at (Or.inl (zne ha (zr (k := 13) (t2 := 76) hG ha rfl) (by decide))), e_s8, zU_at (Or.inl (zne (zr (k := 16) (t2 := 79) hG ha rfl) (zr (k := 13) (t2 := 76) hG ha rfl) (by decide))), (zFr_g hF_s7 (zr (k := 13) (t2 := 76) hG ha rfl) (by decide))])
            have g155 : s9 a 22 = s7 a 22 := (by rw [e_s9, zU_at (Or.inr (by decide)), e_s8, zU_at (Or.inl (zne (zr (k := 16) (t2 := 79) hG ha rfl) ha (by decide)))])
            have f156 := zf hS_s7 ha (k := 22) rfl
            have g157 : s9 a 0 = s7 a 0 := (by rw [e_s9, zU_at (Or.inr (by decide)), e_s8, zU_at (Or.inl (zne (zr (k := 16) (t2 := 79) hG ha rfl) ha (by decide)))])
            have f158 := zf hS_s7 ha (k := 0) rfl
            have g159 : s9 a 3 = s7 a 3 := (by rw [e_s9, zU_at (Or.inr (by decide)), e_s8, zU_at (Or.inl (zne (zr (k := 16) (t2 := 79) hG ha rfl) ha (by decide)))])
            have f160 := zf hS_s7 ha (k := 3) rfl
            have g161 : s9 a 7 = s7 a 7 := (by rw [e_s9, zU_at (Or.inr (by decide)), e_s8, zU_at (Or.inl (zne (zr (k := 16) (t2 := 79) hG ha rfl) ha (by decide)))])
            have f162 := zf hS_s7 ha (k := 7) rfl
            have g163 : s9 a 24 = s7 a 24 := (by rw [e_s9, zU_at (Or.inr (by decide)), e_s8, zU_at (Or.inl (zne (zr (k := 16) (t2 := 79) hG ha rfl) ha (by decide)))])
            have f164 := zf hS_s7 ha (k := 24) rfl
            have g165 : s9 a 38 = s7 a 38 := (by rw [e_s9, zU_at (Or.inr (by decide)), e_s8, zU_at (Or.inl (zne (zr (k := 16) (t2 := 79) hG ha rfl) ha (by decide)))])
            have f166 := zf hS_s7 ha (k := 38) rfl
            have g167 : s9 a 51 = s7 a 51 := (by rw [e_s9, zU_at (Or.inr (by decide)), e_s8, zU_at (Or.inl (zne (zr (k := 16) (t2 := 79) hG ha rfl) ha (by decide)))])
            have f168 := zf hS_s7 ha (k := 51) rfl
            have g169 : s9 a 52 = s7 a 52 := (by rw [e_s9, zU_at (Or.inr (by decide)), e_s8, zU_at (Or.inl (zne (zr (k := 16) (t2 := 79) hG ha rfl) ha (by decide)))])
            have f170 := zf hS_s7 ha (k := 52) rfl
            exact j_vret hx hq rfl (by decide) (by decide) dX12_readClause_306 ⟨rfl, rfl, hS_s9, (zFr_u (zFr_u (zFr_t zFr_rf hF_s7 (by decide)) e_s8 (zr (k := 16) (t2 := 79) hG ha rfl) (by decide)) e_s9 ha (by decide)), ⟨by omega, by omega, (by rw [e_s9, zU_ne (zne (zr (k := 10) (t2 := 73) hG ha rfl) ha (by decide)), e_s8, zU_ne (zne (zr (k := 10) (t2 := 73) hG ha rfl) (zr (k := 16) (t2 := 79) hG ha rfl) (by decide)), (zFr_g hF_s7 (zr (k := 10) (t2 := 73) hG ha rfl) (by decide))]; exact (zQi_k e0 (by omega) (by omega))), by omega, by omega, by omega, by omega, by omega, by omega, by omega, by omega, by omega⟩⟩
        · skip
          refine j_aload_n hx 0 dX12_readClause_170 rfl ?_
          refine j_iconst hx dX12_readClause_171 ?_
          refine j_aload_n hx 0 dX12_readClause_172 rfl ?_
          have f171 := zf hS0 ha (k := 21) rfl
          refine g13_21 hx hG ha kf_RX12_180 rfl dX12_readClause_173 ?_
          refine j_iconst hx dX12_readClause_176 ?_
          refine j_isub hx (r := (s0 a 21) - 1) dX12_readClause_177 (by omega) ?_
          have f172 := zf hS0 ha (k := 4) rfl
          have f173 := zf hS0 ha (k := 5) rfl
          have f174 := zf hS0 ha (k := 3) rfl
          have f175 := zf hS0 ha (k := 0) rfl
          have f176 := zf hS0 ha (k := 7) rfl
          have f177 := zf hS0 ha (k := 22) rfl
          have f178 := zf hS0 ha (k := 23) rfl
          have f179 := zf hS0 ha (k := 24) rfl
          have f180 := zf hS0 ha (k := 38) rfl
          have f181 := zf hS0 ha (k := 51) rfl
          have f182 := zf hS0 ha (k := 52) rfl
          refine j_callV hx hG (c_X12_readNumber hst a 0 ((s0 a 21) - 1)) lk_RX12_219 ha (by decide) rfl rfl rfl rfl [.int (zI 0), .int (zI ((s0 a 21) - 1))] ⟨rfl, hG, hS0, ha, (by omega), (by omega)⟩ rfl rfl ⟨by decide, by decide⟩ ⟨by decide, by decide⟩ (k2 := 0) (n2 := 0) rfl rfl (Nat.le_of_ble_eq_true rfl) dX12_readClause_178 (kIM (fun v183 s10 hS_s10 hF_s10 q184 => ?_))
          refine j_istore_n hx [(2, .int (zI v183)), (0, .ref a), (1, .int (zI x1))] dX12_readClause_181 (by decide) rfl ?_
          refine j_aload_n hx 1 dX12_readClause_182 rfl ?_
          refine j_iconst hx dX12_readClause_183 ?_
          refine j_aload_n hx 1 dX12_readClause_184 rfl ?_
          refine g13_13 hx hG ha kf_RX12_32 dX12_readClause_185 ?_
          refine j_iload_n hx 0 dX12_readClause_188 rfl ?_
          have f185 := zaI (j := (v183).toNat) hS0 (zr (k := 13) (t2 := 76) hG ha rfl) rfl (zlen hG (zr (k := 13) (t2 := 76) hG ha rfl) (n := 3) rfl rfl) (show 0 ≤ v183 by omega) (by omega) rfl
          refine j_iald hx hG (zr (k := 13) (t2 := 76) hG ha rfl) (by decide) rfl (zlen hG (zr (k := 13) (t2 := 76) hG ha rfl) (n := 3) rfl rfl) (by omega) (by omega) (j := (v183).toNat) rfl (v := (s0 (gP G a 13) (v183).toNat)) (by rw [(zFr_g hF_s10 (zr (k := 13) (t2 := 76) hG ha rfl) (by decide))]) dX12_readClause_189 ?_
          have f186 := zf hS_s10 ha (k := 4) rfl
          have f187 := zf hS_s10 ha (k := 5) rfl
          have f188 := zf hS_s10 ha (k := 3) rfl
          have f189 := zf hS_s10 ha (k := 0) rfl
          have f190 := zf hS_s10 ha (k := 7) rfl
          have f191 := zf hS_s10 ha (k := 21) rfl
          have f192 := zf hS_s10 ha (k := 22) rfl
          have f193 := zf hS_s10 ha (k := 23) rfl
          have f194 := zf hS_s10 ha (k := 24) rfl
          have f195 := zf hS_s10 ha (k := 38) rfl
          have f196 := zf hS_s10 ha (k := 51) rfl
          have f197 := zf hS_s10 ha (k := 52) rfl
          refine j_callV hx hG (c_X12_readNumber hst a 0 ((s0 (gP G a 13) (v183).toNat))) lk_RX12_219 ha (by decide) rfl rfl rfl rfl [.int (zI 0), .int (zI ((s0 (gP G a 13) (v183).toNat)))] ⟨rfl, hG, hS_s10, ha, (by omega), (by omega)⟩ rfl rfl ⟨by decide, by decide⟩ ⟨by decide, by decide⟩ (k2 := 0) (n2 := 0) rfl rfl (Nat.le_of_ble_eq_true rfl) dX12_readClause_190 (kIM (fun v198 s11 hS_s11 hF_s11 q199 => ?_))
          refine j_istore_n hx [(3, .int (zI v198)), (2, .int (zI v183)), (0, .ref a), (1, .int (zI x1))] dX12_readClause_193 (by decide) rfl ?_
          refine j_aload_n hx 2 dX12_readClause_194 rfl ?_
          refine j_callV hx hG (c_X12_fine hst a) lk_RX12_166 ha (by decide) rfl rfl rfl rfl [] ⟨rfl, hG, hS_s11, ha⟩ rfl rfl ⟨by decide, by decide⟩ ⟨by decide, by decide⟩ (k2 := 0) (n2 := 0) rfl rfl (Nat.le_of_ble_eq_true rfl) dX12_readClause_195 (kIP (fun v200 q201 => ?_))
          refine j_if_eq hx 227 dX12_readClause_198 rfl (by omega) (fun h202 => ?_) (fun h202 => ?_)
          · skip
            refine j_goto hx 306 dX12_readClause_227 rfl ?_
            have f203 := zf hS_s11 ha (k := 4) rfl
            have f204 := zf hS_s11 ha (k := 5) rfl
            have g205 : s11 (gP G a 13) 0 = s0 (gP G a 13) 0 := (by rw [(zFr_g hF_s11 (zr (k := 13) (t2 := 76) hG ha rfl) (by decide)), (zFr_g hF_s10 (zr (k := 13) (t2 := 76) hG ha rfl) (by decide))])
            have g206 : s11 (gP G a 13) 1 = s0 (gP G a 13) 1 := (by rw [(zFr_g hF_s11 (zr (k := 13) (t2 := 76) hG ha rfl) (by decide)), (zFr_g hF_s10 (zr (k := 13) (t2 := 76) hG ha rfl) (by decide))])
            have g207 : s11 (gP G a 13) 2 = s0 (gP G a 13) 2 := (by rw [(zFr_g hF_s11 (zr (k := 13) (t2 := 76) hG ha rfl) (by decide)), (zFr_g hF_s10 (zr (k := 13) (t2 := 76) hG ha rfl) (by decide))])
            have f208 := zf hS_s11 ha (k := 22) rfl
            have f209 := zf hS_s11 ha (k := 0) rfl
            have f210 := zf hS_s11 ha (k := 3) rfl
            have f211 := zf hS_s11 ha (k := 7) rfl
            have f212 := zf hS_s11 ha (k := 24) rfl
            have f213 := zf hS_s11 ha (k := 38) rfl
            have f214 := zf hS_s11 ha (k := 51) rfl
            have f215 := zf hS_s11 ha (k := 52) rfl
            exact j_vret hx hq rfl (by decide) (by decide) dX12_readClause_306 ⟨rfl, rfl, hS_s11, (zFr_t (zFr_t zFr_rf hF_s10 (by decide)) hF_s11 (by decide)), ⟨by omega, by omega, (by rw [(zFr_g hF_s11 (zr (k := 10) (t2 := 73) hG ha rfl) (by decide)), (zFr_g hF_s10 (zr (k := 10) (t2 := 73) hG ha rfl) (by decide))]; exact (zQi_k e0 (by omega) (by omega))), by omega, by omega, by omega, by omega, by omega, by omega, by omega, by omega, by omega⟩⟩
          · skip
            refine j_aload_n hx 2 dX12_readClause_201 rfl ?_
            refine g13_14 hx hG ha kf_RX12_35 dX12_readClause_202 ?_
            refine j_iload_n hx 1 dX12_readClause_205 rfl ?_
            refine j_iload_n hx 0 dX12_readClause_206 rfl ?_
            refine j_aload_n hx 2 dX12_readClause_207 rfl ?_
            refine g13_14 hx hG ha kf_RX12_35 dX12_readClause_208 ?_
            refine j_iload_n hx 1 dX12_readClause_211 rfl ?_
            have f216 := zaI (j := (v183).toNat) hS0 (zr (k := 14) (t2 := 77) hG ha rfl) rfl (zlen hG (zr (k := 14) (t2 := 77) hG ha rfl) (n := 3) rfl rfl) (show 0 ≤ v183 by omega) (by omega) rfl
            refine j_iald hx hG (zr (k := 14) (t2 := 77) hG ha rfl) (by decide) rfl (zlen hG (zr (k := 14) (t2 := 77) hG ha rfl) (n := 3) rfl rfl) (by omega) (by omega) (j := (v183).toNat) rfl (v := (s0 (gP G a 14) (v183).toNat)) (by rw [(zFr_g hF_s11 (zr (k := 14) (t2 := 77) hG ha rfl) (by decide)), (zFr_g hF_s10 (zr (k := 14) (t2 := 77) hG ha rfl) (by decide))]) dX12_readClause_212 ?_
            refine j_icmp_le hx 220 dX12_readClause_213 rfl (by omega) (by omega) (fun h217 => ?_) (fun h217 => ?_)
            · skip
              refine j_aload_n hx 2 dX12_readClause_220 rfl ?_
              refine g13_14 hx hG ha kf_RX12_35 dX12_readClause_221 ?_
              refine j_iload_n hx 1 dX12_readClause_224 rfl ?_
              refine j_iald hx hG (zr (k := 14) (t2 := 77) hG ha rfl) (by decide) rfl (zlen hG (zr (k := 14) (t2 := 77) hG ha rfl) (n := 3) rfl rfl) (by omega) (by omega) (j := (v183).toNat) rfl (v := (s0 (gP G a 14) (v183).toNat)) (by rw [(zFr_g hF_s11 (zr (k := 14) (t2 := 77) hG ha rfl) (by decide)), (zFr_g hF_s10 (zr (k := 14) (t2 := 77) hG ha rfl) (by decide))]) dX12_readClause_225 ?_
              refine j_iast hx hG (zr (k := 14) (t2 := 77) hG ha rfl) (by decide) rfl (zlen hG (zr (k := 14) (t2 := 77) hG ha rfl) (n := 3) rfl rfl) (by omega) (by omega) (j := (v183).toNat) rfl dX12_readClause_226 ?_
              obtain ⟨s12, e_s12⟩ : ∃ z, z = zU s11 (gP G a 14) (v183).toNat ((s0 (gP G a 14) (v183).toNat)) := ⟨_, rfl⟩
              rw [← e_s12]
              have hS_s12 : zSK G s12 := by rw [e_s12]; exact zSK_A hS_s11 (zr (k := 14) (t2 := 77) hG ha rfl) rfl rfl rfl (by omega)
              refine j_goto hx 306 dX12_readClause_227 rfl ?_
              have g218 : s12 a 4 = s11 a 4 := (by rw [e_s12, zU_at (Or.inl (zne (zr (k := 14) (t2 := 77) hG ha rfl) ha (by decide)))])
              have f219 := zf hS_s11 ha (k := 4) rfl
              have g220 : s12 a 5 = s11 a 5 := (by rw [e_s12, zU_at (Or.inl (zne (zr (k := 14) (t2 := 77) hG ha rfl) ha (by decide)))])
              have f221 := zf hS_s11 ha (k := 5) rfl
              have g222 : s12 (gP G a 13) 0 = s0 (gP G a 13) 0 := (by rw [e_s12, zU_at (Or.inl (zne (zr (k := 14) (t2 := 77) hG ha rfl) (zr (k := 13) (t2 := 76) hG ha rfl) (by decide))), (zFr_g hF_s11 (zr (k := 13) (t2 := 76) hG ha rfl) (by decide)), (zFr_g hF_s10 (zr (k := 13) (t2 := 76) hG ha rfl) (by decide))])
              have g223 : s12 (gP G a 13) 1 = s0 (gP G a 13) 1 := (by rw [e_s12, zU_at (Or.inl (zne (zr (k := 14) (t2 := 77) hG ha rfl) (zr (k := 13) (t2 := 76) hG ha rfl) (by decide))), (zFr_g hF_s11 (zr (k := 13) (t2 := 76) hG ha rfl) (by decide)), (zFr_g hF_s10 (zr (k := 13) (t2 := 76) hG ha rfl) (by decide))])
              have g224 : s12 (gP G a 13) 2 = s0 (gP G a 13) 2 := (by rw [e_s12, zU_at (Or.inl (zne (zr (k := 14) (t2 := 77) hG ha rfl) (zr (k := 13) (t2 := 76) hG ha rfl) (by decide))), (zFr_g hF_s11 (zr (k := 13) (t2 := 76) hG ha rfl) (by decide)), (zFr_g hF_s10 (zr (k := 13) (t2 := 76) hG ha rfl) (by decide))])
              have g225 : s12 a 22 = s11 a 22 := (by rw [e_s12, zU_at (Or.inl (zne (zr (k := 14) (t2 := 77) hG ha rfl) ha (by decide)))])
              have f226 := zf hS_s11 ha (k := 22) rfl
              have g227 : s12 a 0 = s11 a 0 := (by rw [e_s12, zU_at (Or.inl (zne (zr (k := 14) (t2 := 77) hG ha rfl) ha (by decide)))])
              have f228 := zf hS_s11 ha (k := 0) rfl
              have g229 : s12 a 3 = s11 a 3 := (by rw [e_s12, zU_at (Or.inl (zne (zr (k := 14) (t2 := 77) hG ha rfl) ha (by decide)))])
              have f230 := zf hS_s11 ha (k := 3) rfl
              have g231 : s12 a 7 = s11 a 7 := (by rw [e_s12, zU_at (Or.inl (zne (zr (k := 14) (t2 := 77) hG ha rfl) ha (by decide)))])
              have f232 := zf hS_s11 ha (k := 7) rfl
              have g233 : s12 a 24 = s11 a 24 := (by rw [e_s12, zU_at (Or.inl (zne (zr (k := 14) (t2 := 77) hG ha rfl) ha (by decide)))])
              have f234 := zf hS_s11 ha (k := 24) rfl
              have g235 : s12 a 38 = s11 a 38 := (by rw [e_s12, zU_at (Or.inl (zne (zr (k := 14) (t2 := 77) hG ha rfl) ha (by decide)))])
              have f236 := zf hS_s11 ha (k := 38) rfl
              have g237 : s12 a 51 = s11 a 51 := (by rw [e_s12, zU_at (Or.inl (zne (zr (k := 14) (t2 := 77) hG ha rfl) ha (by decide)))])
              have f238 := zf hS_s11 ha (k := 51) rfl
              have g239 : s12 a 52 = s11 a 52 := (by rw [e_s12, zU_at (Or.inl (zne (zr (k := 14) (t2 := 77) hG ha rfl) ha (by decide)))])
              have f240 := zf hS_s11 ha (k := 52) rfl
              exact j_vret hx hq rfl (by decide) (by decide) dX12_readClause_306 ⟨rfl, rfl, hS_s12, (zFr_u (zFr_t (zFr_t zFr_rf hF_s10 (by decide)) hF_s11 (by decide)) e_s12 (zr (k := 14) (t2 := 77) hG ha rfl) (by decide)), ⟨by omega, by omega, (by rw [e_s12, zU_ne (zne (zr (k := 10) (t2 := 73) hG ha rfl) (zr (k := 14) (t2 := 77) hG ha rfl) (by decide)), (zFr_g hF_s11 (zr (k := 10) (t2 := 73) hG ha rfl) (by decide)), (zFr_g hF_s10 (zr (k := 10) (t2 := 73) hG ha rfl) (by decide))]; exact (zQi_k e0 (by omega) (by omega))), by omega, by omega, by omega, by omega, by omega, by omega, by omega, by omega, by omega⟩⟩
            · skip
              refine j_iload_n hx 0 dX12_readClause_216 rfl ?_
              refine j_goto hx 226 dX12_readClause_217 rfl ?_
              refine j_iast hx hG (zr (k := 14) (t2 := 77) hG ha rfl) (by decide) rfl (zlen hG (zr (k := 14) (t2 := 77) hG ha rfl) (n := 3) rfl rfl) (by omega) (by omega) (j := (v183).toNat) rfl dX12_readClause_226 ?_
              obtain ⟨s13, e_s13⟩ : ∃ z, z = zU s11 (gP G a 14) (v183).toNat v198 := ⟨_, rfl⟩
              rw [← e_s13]
              have hS_s13 : zSK G s13 := by rw [e_s13]; exact zSK_A hS_s11 (zr (k := 14) (t2 := 77) hG ha rfl) rfl rfl rfl (by omega)
              refine j_goto hx 306 dX12_readClause_227 rfl ?_
              have g241 : s13 a 4 = s11 a 4 := (by rw [e_s13, zU_at (Or.inl (zne (zr (k := 14) (t2 := 77) hG ha rfl) ha (by decide)))])
              have f242 := zf hS_s11 ha (k := 4) rfl
              have g243 : s13 a 5 = s11 a 5 := (by rw [e_s13, zU_at (Or.inl (zne (zr (k := 14) (t2 := 77) hG ha rfl) ha (by decide)))])
              have f244 := zf hS_s11 ha (k := 5) rfl
              have g245 : s13 (gP G a 13) 0 = s0 (gP G a 13) 0 := (by rw [e_s13, zU_at (Or.inl (zne (zr (k := 14) (t2 := 77) hG ha rfl) (zr (k := 13) (t2 := 76) hG ha rfl) (by decide))), (zFr_g hF_s11 (zr (k := 13) (t2 := 76) hG ha rfl) (by decide)), (zFr_g hF_s10 (zr (k := 13) (t2 := 76) hG ha rfl) (by decide))])
              have g246 : s13 (gP G a 13) 1 = s0 (gP G a 13) 1 := (by rw [e_s13, zU_at (Or.inl (zne (zr (k := 14) (t2 := 77) hG ha rfl) (zr (k := 13) (t2 := 76) hG ha rfl) (by decide))), (zFr_g hF_s11 (zr (k := 13) (t2 := 76) hG ha rfl) (by decide)), (zFr_g hF_s10 (zr (k := 13) (t2 := 76) hG ha rfl) (by decide))])
              have g247 : s13 (gP G a 13) 2 = s0 (gP G a 13) 2 := (by rw [e_s13, zU_at (Or.inl (zne (zr (k := 14) (t2 := 77) hG ha rfl) (zr (k := 13) (t2 := 76) hG ha rfl) (by decide))), (zFr_g hF_s11 (zr (k := 13) (t2 := 76) hG ha rfl) (by decide)), (zFr_g hF_s10 (zr (k := 13) (t2 := 76) hG ha rfl) (by decide))])
              have g248 : s13 a 22 = s11 a 22 := (by rw [e_s13, zU_at (Or.inl (zne (zr (k := 14) (t2 := 77) hG ha rfl) ha (by decide)))])
              have f249 := zf hS_s11 ha (k := 22) rfl
              have g250 : s13 a 0 = s11 a 0 := (by rw [e_s13, zU_at (Or.inl (zne (zr (k := 14) (t2 := 77) hG ha rfl) ha (by decide)))])
              have f251 := zf hS_s11 ha (k := 0) rfl
              have g252 : s13 a 3 = s11 a 3 := (by rw [e_s13, zU_at (Or.inl (zne (zr (k := 14) (t2 := 77) hG ha rfl) ha (by decide)))])
              have f253 := zf hS_s11 ha (k := 3) rfl
              have g254 : s13 a 7 = s11 a 7 := (by rw [e_s13, zU_at (Or.inl (zne (zr (k := 14) (t2 := 77) hG ha rfl) ha (by decide)))])
              have f255 := zf hS_s11 ha (k := 7) rfl
              have g256 : s13 a 24 = s11 a 24 := (by rw [e_s13, zU_at (Or.inl (zne (zr (k := 14) (t2 := 77) hG ha rfl) ha (by decide)))])
              have f257 := zf hS_s11 ha (k := 24) rfl
              have g258 : s13 a 38 = s11 a 38 := (by rw [e_s13, zU_at (Or.inl (zne (zr (k := 14) (t2 := 77) hG ha rfl) ha (by decide)))])
              have f259 := zf hS_s11 ha (k := 38) rfl
              have g260 : s13 a 51 = s11 a 51 := (by rw [e_s13, zU_at (Or.inl (zne (zr (k := 14) (t2 := 77) hG ha rfl) ha (by decide)))])
              have f261 := zf hS_s11 ha (k := 51) rfl
              have g262 : s13 a 52 = s11 a 52 := (by rw [e_s13, zU_at (Or.inl (zne (zr (k := 14) (t2 := 77) hG ha rfl) ha (by decide)))])
              have f263 := zf hS_s11 ha (k := 52) rfl
              exact j_vret hx hq rfl (by decide) (by decide) dX12_readClause_306 ⟨rfl, rfl, hS_s13, (zFr_u (zFr_t (zFr_t zFr_rf hF_s10 (by decide)) hF_s11 (by decide)) e_s13 (zr (k := 14) (t2 := 77) hG ha rfl) (by decide)), ⟨by omega, by omega, (by rw [e_s13, zU_ne (zne (zr (k := 10) (t2 := 73) hG ha rfl) (zr (k := 14) (t2 := 77) hG ha rfl) (by decide)), (zFr_g hF_s11 (zr (k := 10) (t2 := 73) hG ha rfl) (by decide)), (zFr_g hF_s10 (zr (k := 10) (t2 := 73) hG ha rfl) (by decide))]; exact (zQi_k e0 (by omega) (by omega))), by omega, by omega, by omega, by omega, by omega, by omega, by omega, by omega, by omega⟩⟩
      · skip
        refine j_aload_n hx 0 dX12_readClause_124 rfl ?_
        refine j_iconst hx dX12_readClause_125 ?_
        refine j_aload_n hx 0 dX12_readClause_126 rfl ?_
        have f264 := zf hS0 ha (k := 21) rfl
        refine g13_21 hx hG ha kf_RX12_180 rfl dX12_readClause_127 ?_
        refine j_iconst hx dX12_readClause_130 ?_
        refine j_isub hx (r := (s0 a 21) - 1) dX12_readClause_131 (by omega) ?_
        have f265 := zf hS0 ha (k := 4) rfl
        have f266 := zf hS0 ha (k := 5) rfl
        have f267 := zf hS0 ha (k := 3) rfl
        have f268 := zf hS0 ha (k := 0) rfl
        have f269 := zf hS0 ha (k := 7) rfl
        have f270 := zf hS0 ha (k := 22) rfl
        have f271 := zf hS0 ha (k := 23) rfl
        have f272 := zf hS0 ha (k := 24) rfl
        have f273 := zf hS0 ha (k := 38) rfl
        have f274 := zf hS0 ha (k := 51) rfl
        have f275 := zf hS0 ha (k := 52) rfl
        refine j_callV hx hG (c_X12_readNumber hst a 0 ((s0 a 21) - 1)) lk_RX12_219 ha (by decide) rfl rfl rfl rfl [.int (zI 0), .int (zI ((s0 a 21) - 1))] ⟨rfl, hG, hS0, ha, (by omega), (by omega)⟩ rfl rfl ⟨by decide, by decide⟩ ⟨by decide, by decide⟩ (k2 := 0) (n2 := 0) rfl rfl (Nat.le_of_ble_eq_true rfl) dX12_readClause_132 (kIM (fun v276 s14 hS_s14 hF_s14 q277 => ?_))
        refine j_istore_n hx [(2, .int (zI v276)), (0, .ref a), (1, .int (zI x1))] dX12_readClause_135 (by decide) rfl ?_
        refine j_aload_n hx 1 dX12_readClause_136 rfl ?_
        refine j_iconst hx dX12_readClause_137 ?_
        refine j_bipush hx dX12_readClause_138 rfl ?_
        have f278 := zf hS_s14 ha (k := 4) rfl
        have f279 := zf hS_s14 ha (k := 5) rfl
        have f280 := zf hS_s14 ha (k := 3) rfl
        have f281 := zf hS_s14 ha (k := 0) rfl
        have f282 := zf hS_s14 ha (k := 7) rfl
        have f283 := zf hS_s14 ha (k := 21) rfl
        have f284 := zf hS_s14 ha (k := 22) rfl
        have f285 := zf hS_s14 ha (k := 23) rfl
        have f286 := zf hS_s14 ha (k := 24) rfl
        have f287 := zf hS_s14 ha (k := 38) rfl
        have f288 := zf hS_s14 ha (k := 51) rfl
        have f289 := zf hS_s14 ha (k := 52) rfl
        refine j_callV hx hG (c_X12_readNumber hst a 1 9) lk_RX12_219 ha (by decide) rfl rfl rfl rfl [.int (zI 1), .int (zI 9)] ⟨rfl, hG, hS_s14, ha, (by omega), (by omega)⟩ rfl rfl ⟨by decide, by decide⟩ ⟨by decide, by decide⟩ (k2 := 0) (n2 := 0) rfl rfl (Nat.le_of_ble_eq_true rfl) dX12_readClause_140 (kIM (fun v290 s15 hS_s15 hF_s15 q291 => ?_))
        refine j_istore_n hx [(3, .int (zI v290)), (2, .int (zI v276)), (0, .ref a), (1, .int (zI x1))] dX12_readClause_143 (by decide) rfl ?_
        refine j_aload_n hx 2 dX12_readClause_144 rfl ?_
        refine j_callV hx hG (c_X12_fine hst a) lk_RX12_166 ha (by decide) rfl rfl rfl rfl [] ⟨rfl, hG, hS_s15, ha⟩ rfl rfl ⟨by decide, by decide⟩ ⟨by decide, by decide⟩ (k2 := 0) (n2 := 0) rfl rfl (Nat.le_of_ble_eq_true rfl) dX12_readClause_145 (kIP (fun v292 q293 => ?_))
        refine j_if_eq hx 158 dX12_readClause_148 rfl (by omega) (fun h294 => ?_) (fun h294 => ?_)
        · skip
          refine j_goto hx 306 dX12_readClause_158 rfl ?_
          have f295 := zf hS_s15 ha (k := 4) rfl
          have f296 := zf hS_s15 ha (k := 5) rfl
          have g297 : s15 (gP G a 13) 0 = s0 (gP G a 13) 0 := (by rw [(zFr_g hF_s15 (zr (k := 13) (t2 := 76) hG ha rfl) (by decide)), (zFr_g hF_s14 (zr (k := 13) (t2 := 76) hG ha rfl) (by decide))])
          have g298 : s15 (gP G a 13) 1 = s0 (gP G a 13) 1 := (by rw [(zFr_g hF_s15 (zr (k := 13) (t2 := 76) hG ha rfl) (by decide)), (zFr_g hF_s14 (zr (k := 13) (t2 := 76) hG ha rfl) (by decide))])
          have g299 : s15 (gP G a 13) 2 = s0 (gP G a 13) 2 := (by rw [(zFr_g hF_s15 (zr (k := 13) (t2 := 76) hG ha rfl) (by decide)), (zFr_g hF_s14 (zr (k := 13) (t2 := 76) hG ha rfl) (by decide))])
          have f300 := zf hS_s15 ha (k := 22) rfl
          have f301 := zf hS_s15 ha (k := 0) rfl
          have f302 := zf hS_s15 ha (k := 3) rfl
          have f303 := zf hS_s15 ha (k := 7) rfl
          have f304 := zf hS_s15 ha (k := 24) rfl
          have f305 := zf hS_s15 ha (k := 38) rfl
          have f306 := zf hS_s15 ha (k := 51) rfl
          have f307 := zf hS_s15 ha (k := 52) rfl
          exact j_vret hx hq rfl (by decide) (by decide) dX12_readClause_306 ⟨rfl, rfl, hS_s15, (zFr_t (zFr_t zFr_rf hF_s14 (by decide)) hF_s15 (by decide)), ⟨by omega, by omega, (by rw [(zFr_g hF_s15 (zr (k := 10) (t2 := 73) hG ha rfl) (by decide)), (zFr_g hF_s14 (zr (k := 10) (t2 := 73) hG ha rfl) (by decide))]; exact (zQi_k e0 (by omega) (by omega))), by omega, by omega, by omega, by omega, by omega, by omega, by omega, by omega, by omega⟩⟩
        · skip
          refine j_aload_n hx 2 dX12_readClause_151 rfl ?_
          refine g13_11 hx hG ha kf_RX12_26 dX12_readClause_152 ?_
          refine j_iload_n hx 1 dX12_readClause_155 rfl ?_
          refine j_iload_n hx 0 dX12_readClause_156 rfl ?_
          refine j_iast hx hG (zr (k := 11) (t2 := 74) hG ha rfl) (by decide) rfl (zlen hG (zr (k := 11) (t2 := 74) hG ha rfl) (n := 3) rfl rfl) (by omega) (by omega) (j := (v276).toNat) rfl dX12_readClause_157 ?_
          obtain ⟨s16, e_s16⟩ : ∃ z, z = zU s15 (gP G a 11) (v276).toNat v290 := ⟨_, rfl⟩
          rw [← e_s16]
          have hS_s16 : zSK G s16 := by rw [e_s16]; exact zSK_A hS_s15 (zr (k := 11) (t2 := 74) hG ha rfl) rfl rfl rfl (by omega)
          refine j_goto hx 306 dX12_readClause_158 rfl ?_
          have g308 : s16 a 4 = s15 a 4 := (by rw [e_s16, zU_at (Or.inl (zne (zr (k := 11) (t2 := 74) hG ha rfl) ha (by decide)))])
          have f309 := zf hS_s15 ha (k := 4) rfl
          have g310 : s16 a 5 = s15 a 5 := (by rw [e_s16, zU_at (Or.inl (zne (zr (k := 11) (t2 := 74) hG ha rfl) ha (by decide)))])
          have f311 := zf hS_s15 ha (k := 5) rfl
          have g312 : s16 (gP G a 13) 0 = s0 (gP G a 13) 0 := (by rw [e_s16, zU_at (Or.inl (zne (zr (k := 11) (t2 := 74) hG ha rfl) (zr (k := 13) (t2 := 76) hG ha rfl) (by decide))), (zFr_g hF_s15 (zr (k := 13) (t2 := 76) hG ha rfl) (by decide)), (zFr_g hF_s14 (zr (k := 13) (t2 := 76) hG ha rfl) (by decide))])
          have g313 : s16 (gP G a 13) 1 = s0 (gP G a 13) 1 := (by rw [e_s16, zU_at (Or.inl (zne (zr (k := 11) (t2 := 74) hG ha rfl) (zr (k := 13) (t2 := 76) hG ha rfl) (by decide))), (zFr_g hF_s15 (zr (k := 13) (t2 := 76) hG ha rfl) (by decide)), (zFr_g hF_s14 (zr (k := 13) (t2 := 76) hG ha rfl) (by decide))])
          have g314 : s16 (gP G a 13) 2 = s0 (gP G a 13) 2 := (by rw [e_s16, zU_at (Or.inl (zne (zr (k := 11) (t2 := 74) hG ha rfl) (zr (k := 13) (t2 := 76) hG ha rfl) (by decide))), (zFr_g hF_s15 (zr (k := 13) (t2 := 76) hG ha rfl) (by decide)), (zFr_g hF_s14 (zr (k := 13) (t2 := 76) hG ha rfl) (by decide))])
          have g315 : s16 a 22 = s15 a 22 := (by rw [e_s16, zU_at (Or.inl (zne (zr (k := 11) (t2 := 74) hG ha rfl) ha (by decide)))])
          have f316 := zf hS_s15 ha (k := 22) rfl
          have g317 : s16 a 0 = s15 a 0 := (by rw [e_s16, zU_at (Or.inl (zne (zr (k := 11) (t2 := 74) hG ha rfl) ha (by decide)))])
          have f318 := zf hS_s15 ha (k := 0) rfl
          have g319 : s16 a 3 = s15 a 3 := (by rw [e_s16, zU_at (Or.inl (zne (zr (k := 11) (t2 := 74) hG ha rfl) ha (by decide)))])
          have f320 := zf hS_s15 ha (k := 3) rfl
          have g321 : s16 a 7 = s15 a 7 := (by rw [e_s16, zU_at (Or.inl (zne (zr (k := 11) (t2 := 74) hG ha rfl) ha (by decide)))])
          have f322 := zf hS_s15 ha (k := 7) rfl
          have g323 : s16 a 24 = s15 a 24 := (by rw [e_s16, zU_at (Or.inl (zne (zr (k := 11) (t2 := 74) hG ha rfl) ha (by decide)))])
          have f324 := zf hS_s15 ha (k := 24) rfl
          have g325 : s16 a 38 = s15 a 38 := (by rw [e_s16, zU_at (Or.inl (zne (zr (k := 11) (t2 := 74) hG ha rfl) ha (by decide)))])
          have f326 := zf hS_s15 ha (k := 38) rfl
          have g327 : s16 a 51 = s15 a 51 := (by rw [e_s16, zU_at (Or.inl (zne (zr (k := 11) (t2 := 74) hG ha rfl) ha (by decide)))])
          have f328 := zf hS_s15 ha (k := 51) rfl
          have g329 : s16 a 52 = s15 a 52 := (by rw [e_s16, zU_at (Or.inl (zne (zr (k := 11) (t2 := 74) hG ha rfl) ha (by decide)))])
          have f330 := zf hS_s15 ha (k := 52) rfl
          exact j_vret hx hq rfl (by decide) (by decide) dX12_readClause_306 ⟨rfl, rfl, hS_s16, (zFr_u (zFr_t (zFr_t zFr_rf hF_s14 (by decide)) hF_s15 (by decide)) e_s16 (zr (k := 11) (t2 := 74) hG ha rfl) (by decide)), ⟨by omega, by omega, (by rw [e_s16, zU_ne (zne (zr (k := 10) (t2 := 73) hG ha rfl) (zr (k := 11) (t2 := 74) hG ha rfl) (by decide)), (zFr_g hF_s15 (zr (k := 10) (t2 := 73) hG ha rfl) (by decide)), (zFr_g hF_s14 (zr (k := 10) (t2 := 73) hG ha rfl) (by decide))]; exact (zQi_k e0 (by omega) (by omega))), by omega, by omega, by omega, by omega, by omega, by omega, by omega, by omega, by omega⟩⟩
    · skip
      refine j_aload_n hx 0 dX12_readClause_95 rfl ?_
      refine j_iconst hx dX12_readClause_96 ?_
      refine j_aload_n hx 0 dX12_readClause_97 rfl ?_
      have f331 := zf hS0 ha (k := 21) rfl
      refine g13_21 hx hG ha kf_RX12_180 rfl dX12_readClause_98 ?_
      refine j_iconst hx dX12_readClause_101 ?_
      refine j_isub hx (r := (s0 a 21) - 1) dX12_readClause_102 (by omega) ?_
      have f332 := zf hS0 ha (k := 4) rfl
      have f333 := zf hS0 ha (k := 5) rfl
      have f334 := zf hS0 ha (k := 3) rfl
      have f335 := zf hS0 ha (k := 0) rfl
      have f336 := zf hS0 ha (k := 7) rfl
      have f337 := zf hS0 ha (k := 22) rfl
      have f338 := zf hS0 ha (k := 23) rfl
      have f339 := zf hS0 ha (k := 24) rfl
      have f340 := zf hS0 ha (k := 38) rfl
      have f341 := zf hS0 ha (k := 51) rfl
      have f342 := zf hS0 ha (k := 52) rfl
      refine j_callV hx hG (c_X12_readNumber hst a 0 ((s0 a 21) - 1)) lk_RX12_219 ha (by decide) rfl rfl rfl rfl [.int (zI 0), .int (zI ((s0 a 21) - 1))] ⟨rfl, hG, hS0, ha, (by omega), (by omega)⟩ rfl rfl ⟨by decide, by decide⟩ ⟨by decide, by decide⟩ (k2 := 0) (n2 := 0) rfl rfl (Nat.le_of_ble_eq_true rfl) dX12_readClause_103 (kIM (fun v343 s17 hS_s17 hF_s17 q344 => ?_))
      refine j_istore_n hx [(2, .int (zI v343)), (0, .ref a), (1, .int (zI x1))] dX12_readClause_106 (by decide) rfl ?_
      refine j_aload_n hx 1 dX12_readClause_107 rfl ?_
      refine j_iload_n hx 0 dX12_readClause_108 rfl ?_
      have g345 : s17 (gP G a 13) 0 = s0 (gP G a 13) 0 := (by rw [(zFr_g hF_s17 (zr (k := 13) (t2 := 76) hG ha rfl) (by decide))])
      have g346 : s17 (gP G a 13) 1 = s0 (gP G a 13) 1 := (by rw [(zFr_g hF_s17 (zr (k := 13) (t2 := 76) hG ha rfl) (by decide))])
      have g347 : s17 (gP G a 13) 2 = s0 (gP G a 13) 2 := (by rw [(zFr_g hF_s17 (zr (k := 13) (t2 := 76) hG ha rfl) (by decide))])
      have f348 := zf hS_s17 ha (k := 22) rfl
      have f349 := zf hS_s17 ha (k := 4) rfl
      have f350 := zf hS_s17 ha (k := 5) rfl
      have f351 := zf hS_s17 ha (k := 3) rfl
      have f352 := zf hS_s17 ha (k := 0) rfl
      have f353 := zf hS_s17 ha (k := 7) rfl
      have f354 := zf hS_s17 ha (k := 21) rfl
      have f355 := zf hS_s17 ha (k := 23) rfl
      have f356 := zf hS_s17 ha (k := 24) rfl
      have f357 := zf hS_s17 ha (k := 38) rfl
      have f358 := zf hS_s17 ha (k := 51) rfl
      have f359 := zf hS_s17 ha (k := 52) rfl
      refine j_callV hx hG (c_X12_readCards hst a v343) lk_RX12_225 ha (by decide) rfl rfl rfl rfl [.int (zI v343)] ⟨rfl, hG, hS_s17, ha, (by omega), (by omega)⟩ rfl rfl ⟨by decide, by decide⟩ ⟨by decide, by decide⟩ (k2 := 0) (n2 := 0) rfl rfl (Nat.le_of_ble_eq_true rfl) dX12_readClause_109 (kVM (fun s18 hS_s18 hF_s18 q361 => ?_))
      refine j_goto hx 306 dX12_readClause_112 rfl ?_
      have f362 := zf hS_s18 ha (k := 4) rfl
      have f363 := zf hS_s18 ha (k := 5) rfl
      have f364 := zf hS_s18 ha (k := 22) rfl
      have f365 := zf hS_s18 ha (k := 0) rfl
      have f366 := zf hS_s18 ha (k := 3) rfl
      have f367 := zf hS_s18 ha (k := 7) rfl
      have f368 := zf hS_s18 ha (k := 24) rfl
      have f369 := zf hS_s18 ha (k := 38) rfl
      have f370 := zf hS_s18 ha (k := 51) rfl
      have f371 := zf hS_s18 ha (k := 52) rfl
      exact j_vret hx hq rfl (by decide) (by decide) dX12_readClause_306 ⟨rfl, rfl, hS_s18, (zFr_t (zFr_t zFr_rf hF_s17 (by decide)) hF_s18 (by decide)), ⟨by omega, by omega, (by rw [(zFr_g hF_s18 (zr (k := 10) (t2 := 73) hG ha rfl) (by decide)), (zFr_g hF_s17 (zr (k := 10) (t2 := 73) hG ha rfl) (by decide))]; exact (zQi_k e0 (by omega) (by omega))), by omega, by omega, by omega, by omega, by omega, by omega, by omega, by omega, by omega⟩⟩
  · skip
    refine j_iconst hx dX12_readClause_9 ?_
    refine j_aload_n hx 0 dX12_readClause_10 rfl ?_
    have f372 := zf hS0 ha (k := 21) rfl
    refine g13_21 hx hG ha kf_RX12_180 rfl dX12_readClause_11 ?_
    refine j_imul hx (r := 4 * (s0 a 21)) dX12_readClause_14 (by omega) ?_
    refine j_istore_n hx [(2, .int (zI (4 * (s0 a 21)))), (0, .ref a), (1, .int (zI x1))] dX12_readClause_15 (by decide) rfl ?_
    refine j_aload_n hx 1 dX12_readClause_16 rfl ?_
    refine g13_10 hx hG ha kf_RX12_23 dX12_readClause_17 ?_
    refine j_iload_n hx 0 dX12_readClause_20 rfl ?_
    refine j_aload_n hx 1 dX12_readClause_21 rfl ?_
    refine j_iconst hx dX12_readClause_22 ?_
    refine j_bipush hx dX12_readClause_23 rfl ?_
    have f373 := zf hS0 ha (k := 4) rfl
    have f374 := zf hS0 ha (k := 5) rfl
    have f375 := zf hS0 ha (k := 3) rfl
    have f376 := zf hS0 ha (k := 0) rfl
    have f377 := zf hS0 ha (k := 7) rfl
    have f378 := zf hS0 ha (k := 22) rfl
    have f379 := zf hS0 ha (k := 23) rfl
    have f380 := zf hS0 ha (k := 24) rfl
    have f381 := zf hS0 ha (k := 38) rfl
    have f382 := zf hS0 ha (k := 51) rfl
    have f383 := zf hS0 ha (k := 52) rfl
    refine j_callV hx hG (c_X12_readNumber hst a 1 9) lk_RX12_219 ha (by decide) rfl rfl rfl rfl [.int (zI 1), .int (zI 9)] ⟨rfl, hG, hS0, ha, (by omega), (by omega)⟩ rfl rfl ⟨by decide, by decide⟩ ⟨by decide, by decide⟩ (k2 := 0) (n2 := 0) rfl rfl (Nat.le_of_ble_eq_true rfl) dX12_readClause_25 (kIM (fun v384 s19 hS_s19 hF_s19 q385 => ?_))
    refine j_iast hx hG (zr (k := 10) (t2 := 73) hG ha rfl) (by decide) rfl (zlen hG (zr (k := 10) (t2 := 73) hG ha rfl) (n := 12) rfl rfl) (by omega) (by omega) (j := (4 * (s0 a 21)).toNat) rfl dX12_readClause_28 ?_
    obtain ⟨s20, e_s20⟩ : ∃ z, z = zU s19 (gP G a 10) (4 * (s0 a 21)).toNat v384 := ⟨_, rfl⟩
    rw [← e_s20]
    have hS_s20 : zSK G s20 := by rw [e_s20]; exact zSK_A hS_s19 (zr (k := 10) (t2 := 73) hG ha rfl) rfl rfl rfl (by omega)
    have g386 : s20 a 5 = s19 a 5 := (by rw [e_s20, zU_at (Or.inl (zne (zr (k := 10) (t2 := 73) hG ha rfl) ha (by decide)))])
    have f387 := zf hS_s19 ha (k := 5) rfl
    have g388 : s20 a 21 = s19 a 21 := (by rw [e_s20, zU_at (Or.inl (zne (zr (k := 10) (t2 := 73) hG ha rfl) ha (by decide)))])
    have f389 := zf hS_s19 ha (k := 21) rfl
    have hP390 : zQi (s20 a 5) (s20 (gP G a 10)) (s20 a 21 + 1) := zQi_a (by rw [(zFr_g hF_s19 (zr (k := 10) (t2 := 73) hG ha rfl) (by decide))]; exact (zQi_k e0 (by omega) (by omega))) e_s20 (b2 := s20 a 5) (by omega) (by omega)
    refine j_aload_n hx 1 dX12_readClause_29 rfl ?_
    refine g13_10 hx hG ha kf_RX12_23 dX12_readClause_30 ?_
    refine j_iload_n hx 0 dX12_readClause_33 rfl ?_
    refine j_iconst hx dX12_readClause_34 ?_
    refine j_iadd hx (r := 4 * (s0 a 21) + 1) dX12_readClause_35 (by omega) ?_
    refine j_aload_n hx 1 dX12_readClause_36 rfl ?_
    refine j_iconst hx dX12_readClause_37 ?_
    refine j_bipush hx dX12_readClause_38 rfl ?_
    have g391 : s20 a 4 = s19 a 4 := (by rw [e_s20, zU_at (Or.inl (zne (zr (k := 10) (t2 := 73) hG ha rfl) ha (by decide)))])
    have f392 := zf hS_s19 ha (k := 4) rfl
    have g393 : s20 a 3 = s19 a 3 := (by rw [e_s20, zU_at (Or.inl (zne (zr (k := 10) (t2 := 73) hG ha rfl) ha (by decide)))])
    have f394 := zf hS_s19 ha (k := 3) rfl
    have g395 : s20 a 0 = s19 a 0 := (by rw [e_s20, zU_at (Or.inl (zne (zr (k := 10) (t2 := 73) hG ha rfl) ha (by decide)))])
    have f396 := zf hS_s19 ha (k := 0) rfl
    have g397 : s20 a 7 = s19 a 7 := (by rw [e_s20, zU_at (Or.inl (zne (zr (k := 10) (t2 := 73) hG ha rfl) ha (by decide)))])
    have f398 := zf hS_s19 ha (k := 7) rfl
    have g399 : s20 a 22 = s19 a 22 := (by rw [e_s20, zU_at (Or.inl (zne (zr (k := 10) (t2 := 73) hG ha rfl) ha (by decide)))])
    have f400 := zf hS_s19 ha (k := 22) rfl
    have g401 : s20 a 23 = s19 a 23 := (by rw [e_s20, zU_at (Or.inl (zne (zr (k := 10) (t2 := 73) hG ha rfl) ha (by decide)))])
    have f402 := zf hS_s19 ha (k := 23) rfl
    have g403 : s20 a 24 = s19 a 24 := (by rw [e_s20, zU_at (Or.inl (zne (zr (k := 10) (t2 := 73) hG ha rfl) ha (by decide)))])
    have f404 := zf hS_s19 ha (k := 24) rfl
    have g405 : s20 a 38 = s19 a 38 := (by rw [e_s20, zU_at (Or.inl (zne (zr (k := 10) (t2 := 73) hG ha rfl) ha (by decide)))])
    have f406 := zf hS_s19 ha (k := 38) rfl
    have g407 : s20 a 51 = s19 a 51 := (by rw [e_s20, zU_at (Or.inl (zne (zr (k := 10) (t2 := 73) hG ha rfl) ha (by decide)))])
    have f408 := zf hS_s19 ha (k := 51) rfl
    have g409 : s20 a 52 = s19 a 52 := (by rw [e_s20, zU_at (Or.inl (zne (zr (k := 10) (t2 := 73) hG ha rfl) ha (by decide)))])
    have f410 := zf hS_s19 ha (k := 52) rfl
    refine j_callV hx hG (c_X12_readNumber hst a 0 60) lk_RX12_219 ha (by decide) rfl rfl rfl rfl [.int (zI 0), .int (zI 60)] ⟨rfl, hG, hS_s20, ha, (by omega), (by omega)⟩ rfl rfl ⟨by decide, by decide⟩ ⟨by decide, by decide⟩ (k2 := 0) (n2 := 0) rfl rfl (Nat.le_of_ble_eq_true rfl) dX12_readClause_40 (kIM (fun v411 s21 hS_s21 hF_s21 q412 => ?_))
    refine j_iast hx hG (zr (k := 10) (t2 := 73) hG ha rfl) (by decide) rfl (zlen hG (zr (k := 10) (t2 := 73) hG ha rfl) (n := 12) rfl rfl) (by omega) (by omega) (j := (4 * (s0 a 21) + 1).toNat) rfl dX12_readClause_43 ?_
    obtain ⟨s22, e_s22⟩ : ∃ z, z = zU s21 (gP G a 10) (4 * (s0 a 21) + 1).toNat v411 := ⟨_, rfl⟩
    rw [← e_s22]
    have hS_s22 : zSK G s22 := by rw [e_s22]; exact zSK_A hS_s21 (zr (k := 10) (t2 := 73) hG ha rfl) rfl rfl rfl (by omega)
    have hP413 : zQi (s21 a 5) (s22 (gP G a 10)) (s21 a 21 + 1) := zQi_o (by rw [(zFr_g hF_s21 (zr (k := 10) (t2 := 73) hG ha rfl) (by decide))]; exact (zQi_k hP390 (by omega) (by omega))) e_s22 (by omega)
    refine j_aload_n hx 1 dX12_readClause_44 rfl ?_
    refine g13_10 hx hG ha kf_RX12_23 dX12_readClause_45 ?_
    refine j_iload_n hx 0 dX12_readClause_48 rfl ?_
    refine j_iconst hx dX12_readClause_49 ?_
    refine j_iadd hx (r := 4 * (s0 a 21) + 2) dX12_readClause_50 (by omega) ?_
    refine j_aload_n hx 1 dX12_readClause_51 rfl ?_
    refine j_iconst hx dX12_readClause_52 ?_
    refine j_bipush hx dX12_readClause_53 rfl ?_
    have g414 : s22 a 4 = s21 a 4 := (by rw [e_s22, zU_at (Or.inl (zne (zr (k := 10) (t2 := 73) hG ha rfl) ha (by decide)))])
    have f415 := zf hS_s21 ha (k := 4) rfl
    have g416 : s22 a 5 = s21 a 5 := (by rw [e_s22, zU_at (Or.inl (zne (zr (k := 10) (t2 := 73) hG ha rfl) ha (by decide)))])
    have f417 := zf hS_s21 ha (k := 5) rfl
    have g418 : s22 a 3 = s21 a 3 := (by rw [e_s22, zU_at (Or.inl (zne (zr (k := 10) (t2 := 73) hG ha rfl) ha (by decide)))])
    have f419 := zf hS_s21 ha (k := 3) rfl
    have g420 : s22 a 0 = s21 a 0 := (by rw [e_s22, zU_at (Or.inl (zne (zr (k := 10) (t2 := 73) hG ha rfl) ha (by decide)))])
    have f421 := zf hS_s21 ha (k := 0) rfl
    have g422 : s22 a 7 = s21 a 7 := (by rw [e_s22, zU_at (Or.inl (zne (zr (k := 10) (t2 := 73) hG ha rfl) ha (by decide)))])
    have f423 := zf hS_s21 ha (k := 7) rfl
    have g424 : s22 a 21 = s21 a 21 := (by rw [e_s22, zU_at (Or.inl (zne (zr (k := 10) (t2 := 73) hG ha rfl) ha (by decide)))])
    have f425 := zf hS_s21 ha (k := 21) rfl
    have g426 : s22 a 22 = s21 a 22 := (by rw [e_s22, zU_at (Or.inl (zne (zr (k := 10) (t2 := 73) hG ha rfl) ha (by decide)))])
    have f427 := zf hS_s21 ha (k := 22) rfl
    have g428 : s22 a 23 = s21 a 23 := (by rw [e_s22, zU_at (Or.inl (zne (zr (k := 10) (t2 := 73) hG ha rfl) ha (by decide)))])
    have f429 := zf hS_s21 ha (k := 23) rfl
    have g430 : s22 a 24 = s21 a 24 := (by rw [e_s22, zU_at (Or.inl (zne (zr (k := 10) (t2 := 73) hG ha rfl) ha (by decide)))])
    have f431 := zf hS_s21 ha (k := 24) rfl
    have g432 : s22 a 38 = s21 a 38 := (by rw [e_s22, zU_at (Or.inl (zne (zr (k := 10) (t2 := 73) hG ha rfl) ha (by decide)))])
    have f433 := zf hS_s21 ha (k := 38) rfl
    have g434 : s22 a 51 = s21 a 51 := (by rw [e_s22, zU_at (Or.inl (zne (zr (k := 10) (t2 := 73) hG ha rfl) ha (by decide)))])
    have f435 := zf hS_s21 ha (k := 51) rfl
    have g436 : s22 a 52 = s21 a 52 := (by rw [e_s22, zU_at (Or.inl (zne (zr (k := 10) (t2 := 73) hG ha rfl) ha (by decide)))])
    have f437 := zf hS_s21 ha (k := 52) rfl
    refine j_callV hx hG (c_X12_readNumber hst a 0 9) lk_RX12_219 ha (by decide) rfl rfl rfl rfl [.int (zI 0), .int (zI 9)] ⟨rfl, hG, hS_s22, ha, (by omega), (by omega)⟩ rfl rfl ⟨by decide, by decide⟩ ⟨by decide, by decide⟩ (k2 := 0) (n2 := 0) rfl rfl (Nat.le_of_ble_eq_true rfl) dX12_readClause_55 (kIM (fun v438 s23 hS_s23 hF_s23 q439 => ?_))
    refine j_iast hx hG (zr (k := 10) (t2 := 73) hG ha rfl) (by decide) rfl (zlen hG (zr (k := 10) (t2 := 73) hG ha rfl) (n := 12) rfl rfl) (by omega) (by omega) (j := (4 * (s0 a 21) + 2).toNat) rfl dX12_readClause_58 ?_
    obtain ⟨s24, e_s24⟩ : ∃ z, z = zU s23 (gP G a 10) (4 * (s0 a 21) + 2).toNat v438 := ⟨_, rfl⟩
    rw [← e_s24]
    have hS_s24 : zSK G s24 := by rw [e_s24]; exact zSK_A hS_s23 (zr (k := 10) (t2 := 73) hG ha rfl) rfl rfl rfl (by omega)
    have hP440 : zQi (s23 a 5) (s24 (gP G a 10)) (s23 a 21 + 1) := zQi_o (by rw [(zFr_g hF_s23 (zr (k := 10) (t2 := 73) hG ha rfl) (by decide))]; exact (zQi_k hP413 (by omega) (by omega))) e_s24 (by omega)
    refine j_aload_n hx 1 dX12_readClause_59 rfl ?_
    refine g13_10 hx hG ha kf_RX12_23 dX12_readClause_60 ?_
    refine j_iload_n hx 0 dX12_readClause_63 rfl ?_
    refine j_iconst hx dX12_readClause_64 ?_
    refine j_iadd hx (r := 4 * (s0 a 21) + 3) dX12_readClause_65 (by omega) ?_
    refine j_aload_n hx 1 dX12_readClause_66 rfl ?_
    refine j_iconst hx dX12_readClause_67 ?_
    refine j_iconst hx dX12_readClause_68 ?_
    have g441 : s24 a 4 = s23 a 4 := (by rw [e_s24, zU_at (Or.inl (zne (zr (k := 10) (t2 := 73) hG ha rfl) ha (by decide)))])
    have f442 := zf hS_s23 ha (k := 4) rfl
    have g443 : s24 a 5 = s23 a 5 := (by rw [e_s24, zU_at (Or.inl (zne (zr (k := 10) (t2 := 73) hG ha rfl) ha (by decide)))])
    have f444 := zf hS_s23 ha (k := 5) rfl
    have g445 : s24 a 3 = s23 a 3 := (by rw [e_s24, zU_at (Or.inl (zne (zr (k := 10) (t2 := 73) hG ha rfl) ha (by decide)))])
    have f446 := zf hS_s23 ha (k := 3) rfl
    have g447 : s24 a 0 = s23 a 0 := (by rw [e_s24, zU_at (Or.inl (zne (zr (k := 10) (t2 := 73) hG ha rfl) ha (by decide)))])
    have f448 := zf hS_s23 ha (k := 0) rfl
    have g449 : s24 a 7 = s23 a 7 := (by rw [e_s24, zU_at (Or.inl (zne (zr (k := 10) (t2 := 73) hG ha rfl) ha (by decide)))])
    have f450 := zf hS_s23 ha (k := 7) rfl
    have g451 : s24 a 21 = s23 a 21 := (by rw [e_s24, zU_at (Or.inl (zne (zr (k := 10) (t2 := 73) hG ha rfl) ha (by decide)))])
    have f452 := zf hS_s23 ha (k := 21) rfl
    have g453 : s24 a 22 = s23 a 22 := (by rw [e_s24, zU_at (Or.inl (zne (zr (k := 10) (t2 := 73) hG ha rfl) ha (by decide)))])
    have f454 := zf hS_s23 ha (k := 22) rfl
    have g455 : s24 a 23 = s23 a 23 := (by rw [e_s24, zU_at (Or.inl (zne (zr (k := 10) (t2 := 73) hG ha rfl) ha (by decide)))])
    have f456 := zf hS_s23 ha (k := 23) rfl
    have g457 : s24 a 24 = s23 a 24 := (by rw [e_s24, zU_at (Or.inl (zne (zr (k := 10) (t2 := 73) hG ha rfl) ha (by decide)))])
    have f458 := zf hS_s23 ha (k := 24) rfl
    have g459 : s24 a 38 = s23 a 38 := (by rw [e_s24, zU_at (Or.inl (zne (zr (k := 10) (t2 := 73) hG ha rfl) ha (by decide)))])
    have f460 := zf hS_s23 ha (k := 38) rfl
    have g461 : s24 a 51 = s23 a 51 := (by rw [e_s24, zU_at (Or.inl (zne (zr (k := 10) (t2 := 73) hG ha rfl) ha (by decide)))])
    have f462 := zf hS_s23 ha (k := 51) rfl
    have g463 : s24 a 52 = s23 a 52 := (by rw [e_s24, zU_at (Or.inl (zne (zr (k := 10) (t2 := 73) hG ha rfl) ha (by decide)))])
    have f464 := zf hS_s23 ha (k := 52) rfl
    refine j_callV hx hG (c_X12_readNumber hst a 0 2) lk_RX12_219 ha (by decide) rfl rfl rfl rfl [.int (zI 0), .int (zI 2)] ⟨rfl, hG, hS_s24, ha, (by omega), (by omega)⟩ rfl rfl ⟨by decide, by decide⟩ ⟨by decide, by decide⟩ (k2 := 0) (n2 := 0) rfl rfl (Nat.le_of_ble_eq_true rfl) dX12_readClause_69 (kIM (fun v465 s25 hS_s25 hF_s25 q466 => ?_))
    refine j_iast hx hG (zr (k := 10) (t2 := 73) hG ha rfl) (by decide) rfl (zlen hG (zr (k := 10) (t2 := 73) hG ha rfl) (n := 12) rfl rfl) (by omega) (by omega) (j := (4 * (s0 a 21) + 3).toNat) rfl dX12_readClause_72 ?_
    obtain ⟨s26, e_s26⟩ : ∃ z, z = zU s25 (gP G a 10) (4 * (s0 a 21) + 3).toNat v465 := ⟨_, rfl⟩
    rw [← e_s26]
    have hS_s26 : zSK G s26 := by rw [e_s26]; exact zSK_A hS_s25 (zr (k := 10) (t2 := 73) hG ha rfl) rfl rfl rfl (by omega)
    have hP467 : zQi (s25 a 5) (s26 (gP G a 10)) (s25 a 21 + 1) := zQi_o (by rw [(zFr_g hF_s25 (zr (k := 10) (t2 := 73) hG ha rfl) (by decide))]; exact (zQi_k hP440 (by omega) (by omega))) e_s26 (by omega)
    refine j_aload_n hx 1 dX12_readClause_73 rfl ?_
    refine j_dup hx dX12_readClause_74 rfl ?_
    have f468 := zf hS_s25 ha (k := 21) rfl
    refine g13_21 hx hG ha kf_RX12_180 (v := (s25 a 21)) (by rw [e_s26, zU_at (Or.inl (zne (zr (k := 10) (t2 := 73) hG ha rfl) ha (by decide)))]) dX12_readClause_75 ?_
    refine j_iconst hx dX12_readClause_78 ?_
    refine j_iadd hx (r := (s25 a 21) + 1) dX12_readClause_79 (by omega) ?_
    refine p13_21 hx hG ha kf_RX12_180 dX12_readClause_80 ?_
    obtain ⟨s27, e_s27⟩ : ∃ z, z = zU s26 a 21 ((s25 a 21) + 1) := ⟨_, rfl⟩
    rw [← e_s27]
    have hS_s27 : zSK G s27 := by rw [e_s27]; exact zSK_F hS_s26 ha rfl rfl rfl (by omega)
    refine j_goto hx 306 dX12_readClause_83 rfl ?_
    have g469 : s27 a 4 = s25 a 4 := (by rw [e_s27, zU_at (Or.inr (by decide)), e_s26, zU_at (Or.inl (zne (zr (k := 10) (t2 := 73) hG ha rfl) ha (by decide)))])
    have f470 := zf hS_s25 ha (k := 4) rfl
    have g471 : s27 a 5 = s25 a 5 := (by rw [e_s27, zU_at (Or.inr (by decide)), e_s26, zU_at (Or.inl (zne (zr (k := 10) (t2 := 73) hG ha rfl) ha (by decide)))])
    have f472 := zf hS_s25 ha (k := 5) rfl
    have g473 : s27 (gP G a 13) 0 = s0 (gP G a 13) 0 := (by rw [e_s27, zU_at (Or.inl (zne ha (zr (k := 13) (t2 := 76) hG ha rfl) (by decide))), e_s26, zU_at (Or.inl (zne (zr (k := 10) (t2 := 73) hG ha rfl) (zr (k := 13) (t2 := 76) hG ha rfl) (by decide))), (zFr_g hF_s25 (zr (k := 13) (t2 := 76) hG ha rfl) (by decide)), e_s24, zU_at (Or.inl (zne (zr (k := 10) (t2 := 73) hG ha rfl) (zr (k := 13) (t2 := 76) hG ha rfl) (by decide))), (zFr_g hF_s23 (zr (k := 13) (t2 := 76) hG ha rfl) (by decide)), e_s22, zU_at (Or.inl (zne (zr (k := 10) (t2 := 73) hG ha rfl) (zr (k := 13) (t2 := 76) hG ha rfl) (by decide))), (zFr_g hF_s21 (zr (k := 13) (t2 := 76) hG ha rfl) (by decide)), e_s20, zU_at (Or.inl (zne (zr (k := 10) (t2 := 73) hG ha rfl) (zr (k := 13) (t2 := 76) hG ha rfl) (by decide))), (zFr_g hF_s19 (zr (k := 13) (t2 := 76) hG ha rfl) (by decide))])
    have g474 : s27 (gP G a 13) 1 = s0 (gP G a 13) 1 := (by rw [e_s27, zU_at (Or.inl (zne ha (zr (k := 13) (t2 := 76) hG ha rfl) (by decide))), e_s26, zU_at (Or.inl (zne (zr (k := 10) (t2 := 73) hG ha rfl) (zr (k := 13) (t2 := 76) hG ha rfl) (by decide))), (zFr_g hF_s25 (zr (k := 13) (t2 := 76) hG ha rfl) (by decide)), e_s24, zU_at (Or.inl (zne (zr (k := 10) (t2 := 73) hG ha rfl) (zr (k := 13) (t2 := 76) hG ha rfl) (by decide))), (zFr_g hF_s23 (zr (k := 13) (t2 := 76) hG ha rfl) (by decide)), e_s22, zU_at (Or.inl (zne (zr (k := 10) (t2 := 73) hG ha rfl) (zr (k := 13) (t2 := 76) hG ha rfl) (by decide))), (zFr_g hF_s21 (zr (k := 13) (t2 := 76) hG ha rfl) (by decide)), e_s20, zU_at (Or.inl (zne (zr (k := 10) (t2 := 73) hG ha rfl) (zr (k := 13) (t2 := 76) hG ha rfl) (by decide))), (zFr_g hF_s19 (zr (k := 13) (t2 := 76) hG ha rfl) (by decide))])
    have g475 : s27 (gP G a 13) 2 = s0 (gP G a 13) 2 := (by rw [e_s27, zU_at (Or.inl (zne ha (zr (k := 13) (t2 := 76) hG ha rfl) (by decide))), e_s26, zU_at (Or.inl (zne (zr (k := 10) (t2 := 73) hG ha rfl) (zr (k := 13) (t2 := 76) hG ha rfl) (by decide))), (zFr_g hF_s25 (zr (k := 13) (t2 := 76) hG ha rfl) (by decide)), e_s24, zU_at (Or.inl (zne (zr (k := 10) (t2 := 73) hG ha rfl) (zr (k := 13) (t2 := 76) hG ha rfl) (by decide))), (zFr_g hF_s23 (zr (k := 13) (t2 := 76) hG ha rfl) (by decide)), e_s22, zU_at (Or.inl (zne (zr (k := 10) (t2 := 73) hG ha rfl) (zr (k := 13) (t2 := 76) hG ha rfl) (by decide))), (zFr_g hF_s21 (zr (k := 13) (t2 := 76) hG ha rfl) (by decide)), e_s20, zU_at (Or.inl (zne (zr (k := 10) (t2 := 73) hG ha rfl) (zr (k := 13) (t2 := 76) hG ha rfl) (by decide))), (zFr_g hF_s19 (zr (k := 13) (t2 := 76) hG ha rfl) (by decide))])
    have g476 : s27 a 22 = s25 a 22 := (by rw [e_s27, zU_at (Or.inr (by decide)), e_s26, zU_at (Or.inl (zne (zr (k := 10) (t2 := 73) hG ha rfl) ha (by decide)))])
    have f477 := zf hS_s25 ha (k := 22) rfl
    have g478 : s27 a 0 = s25 a 0 := (by rw [e_s27, zU_at (Or.inr (by decide)), e_s26, zU_at (Or.inl (zne (zr (k := 10) (t2 := 73) hG ha rfl) ha (by decide)))])
    have f479 := zf hS_s25 ha (k := 0) rfl
    have g480 : s27 a 3 = s25 a 3 := (by rw [e_s27, zU_at (Or.inr (by decide)), e_s26, zU_at (Or.inl (zne (zr (k := 10) (t2 := 73) hG ha rfl) ha (by decide)))])
    have f481 := zf hS_s25 ha (k := 3) rfl
    have g482 : s27 a 7 = s25 a 7 := (by rw [e_s27, zU_at (Or.inr (by decide)), e_s26, zU_at (Or.inl (zne (zr (k := 10) (t2 := 73) hG ha rfl) ha (by decide)))])
    have f483 := zf hS_s25 ha (k := 7) rfl
    have g484 : s27 a 24 = s25 a 24 := (by rw [e_s27, zU_at (Or.inr (by decide)), e_s26, zU_at (Or.inl (zne (zr (k := 10) (t2 := 73) hG ha rfl) ha (by decide)))])
    have f485 := zf hS_s25 ha (k := 24) rfl
    have g486 : s27 a 38 = s25 a 38 := (by rw [e_s27, zU_at (Or.inr (by decide)), e_s26, zU_at (Or.inl (zne (zr (k := 10) (t2 := 73) hG ha rfl) ha (by decide)))])
    have f487 := zf hS_s25 ha (k := 38) rfl
    have g488 : s27 a 51 = s25 a 51 := (by rw [e_s27, zU_at (Or.inr (by decide)), e_s26, zU_at (Or.inl (zne (zr (k := 10) (t2 := 73) hG ha rfl) ha (by decide)))])
    have f489 := zf hS_s25 ha (k := 51) rfl
    have g490 : s27 a 52 = s25 a 52 := (by rw [e_s27, zU_at (Or.inr (by decide)), e_s26, zU_at (Or.inl (zne (zr (k := 10) (t2 := 73) hG ha rfl) ha (by decide)))])
    have f491 := zf hS_s25 ha (k := 52) rfl
    exact j_vret hx hq rfl (by decide) (by decide) dX12_readClause_306 ⟨rfl, rfl, hS_s27, (zFr_u (zFr_u (zFr_t (zFr_u (zFr_t (zFr_u (zFr_t (zFr_u (zFr_t zFr_rf hF_s19 (by decide)) e_s20 (zr (k := 10) (t2 := 73) hG ha rfl) (by decide)) hF_s21 (by decide)) e_s22 (zr (k := 10) (t2 := 73) hG ha rfl) (by decide)) hF_s23 (by decide)) e_s24 (zr (k := 10) (t2 := 73) hG ha rfl) (by decide)) hF_s25 (by decide)) e_s26 (zr (k := 10) (t2 := 73) hG ha rfl) (by decide)) e_s27 ha (by decide)), ⟨by omega, by omega, (by rw [e_s27, zU_ne (zne (zr (k := 10) (t2 := 73) hG ha rfl) ha (by decide))]; exact (zQi_k hP467 (by omega) (by omega))), by omega, by omega, by omega, by omega, by omega, by omega, by omega, by omega, by omega⟩⟩

set_option maxHeartbeats 4000000 in
set_option maxRecDepth 20000 in
theorem c_X12_sign {E : zE} {l : Launch} (hst : l.stackTraces = false) (a : Nat) (x1 : Int) : Con E l yX12_sign cX12_sign 2 none { frames := 1, cells := 0, slots := 0, locals := 22 } (fun G s vs => vs = [.ref a, .int (zI x1)] ∧ zGK G ∧ zSK G s ∧ (gT G a = 13) ∧ (1 ≤ x1 ∧ x1 ≤ 255)) (fun G s _ => pV (fun G2 s2 => G2 = G ∧ zSK G s2 ∧ zFr [13] G s s2 ∧ s a 4 ≤ s2 a 4 ∧ 0 ≤ s a 5 → 0 ≤ s2 a 5 ∧ (s2 a 5 = -1 → s a 4 + 1 ≤ s2 a 4 ∧ s2 a 4 ≤ s a 3) ∧ s2 a 4 ≤ s a 4 ∨ s2 a 4 ≤ s a 3 ∧ s2 a 0 = s a 0 ∧ s2 a 3 = s a 3 ∧ s2 a 7 = s a 7 ∧ s2 a 21 = s a 21 ∧ s2 a 22 = s a 22 ∧ s2 a 23 = s a 23 ∧ s2 a 24 = s a 24 ∧ s2 a 38 = s a 38 ∧ s2 a 51 = s a 51 ∧ s2 a 52 = s a 52)) := by
  refine Con.mk hst (by decide) (fun G s vs h => by rw [h.1]; exact Nat.le_of_ble_eq_true rfl) ?_
  rintro X G s0 vs ⟨rfl, hG, hS0, ha, hx1⟩ rfl hx hq
  show JJ X E 2 G s0 0 0 [(0, .ref a), (1, .int (zI x1))] 0 []
  refine j_aload_n hx 0 dX12_sign_0 rfl ?_
  refine j_callV hx hG (c_X12_fine hst a) lk_RX12_166 ha (by decide) rfl rfl rfl rfl [] ⟨rfl, hG, hS0, ha⟩ rfl rfl ⟨by decide, by decide⟩ ⟨by decide, by decide⟩ (k2 := 0) (n2 := 0) rfl rfl (Nat.le_of_ble_eq_true rfl) dX12_sign_1 (kIP (fun v1 q2 => ?_))
  refine j_if_eq hx 24 dX12_sign_4 rfl (by omega) (fun h3 => ?_) (fun h3 => ?_)
  · skip
    refine j_aload_n hx 0 dX12_sign_24 rfl ?_
    refine j_callV hx hG (c_X12_fine hst a) lk_RX12_166 ha (by decide) rfl rfl rfl rfl [] ⟨rfl, hG, hS0, ha⟩ rfl rfl ⟨by decide, by decide⟩ ⟨by decide, by decide⟩ (k2 := 0) (n2 := 0) rfl rfl (Nat.le_of_ble_eq_true rfl) dX12_sign_25 (kIP (fun v4 q5 => ?_))
    refine j_if_eq hx 41 dX12_sign_28 rfl (by omega) (fun h6 => ?_) (fun h6 => ?_)
    · skip
      have f7 := zf hS0 ha (k := 4) rfl
      have f8 := zf hS0 ha (k := 5) rfl
      have f9 := zf hS0 ha (k := 3) rfl
      have f10 := zf hS0 ha (k := 0) rfl
      have f11 := zf hS0 ha (k := 7) rfl
      have f12 := zf hS0 ha (k := 21) rfl
      have f13 := zf hS0 ha (k := 22) rfl
      have f14 := zf hS0 ha (k := 23) rfl
      have f15 := zf hS0 ha (k := 24) rfl
      have f16 := zf hS0 ha (k := 38) rfl
      have f17 := zf hS0 ha (k := 51) rfl
      have f18 := zf hS0 ha (k := 52) rfl
      exact j_vret hx hq rfl (by decide) (by decide) dX12_sign_41 ⟨rfl, rfl, hS0, zFr_rf, ⟨by omega, by omega, by omega, by omega, by omega, by omega, by omega, by omega, by omega, by omega, by omega, by omega, by omega, by omega⟩⟩
    · skip
      refine j_aload_n hx 0 dX12_sign_31 rfl ?_
      refine j_dup hx dX12_sign_32 rfl ?_
      have f19 := zf hS0 ha (k := 4) rfl
      refine g13_4 hx hG ha kf_RX12_143 rfl dX12_sign_33 ?_
      refine j_iconst hx dX12_sign_36 ?_
      refine j_iadd hx (r := (s0 a 4) + 1) dX12_sign_37 (by omega) ?_
      refine p13_4 hx hG ha kf_RX12_143 dX12_sign_38 ?_
      obtain ⟨s1, e_s1⟩ : ∃ z, z = zU s0 a 4 ((s0 a 4) + 1) := ⟨_, rfl⟩
      rw [← e_s1]
      have hS_s1 : zSK G s1 := by rw [e_s1]; exact zSK_F hS0 ha rfl rfl rfl (by omega)
      have g20 : s1 a 4 = (s0 a 4) + 1 := (by rw [e_s1, zU_eq])
      have g21 : s1 a 5 = s0 a 5 := (by rw [e_s1, zU_at (Or.inr (by decide))])
      have f22 := zf hS0 ha (k := 5) rfl
      have g23 : s1 a 0 = s0 a 0 := (by rw [e_s1, zU_at (Or.inr (by decide))])
      have f24 := zf hS0 ha (k := 0) rfl
      have g25 : s1 a 3 = s0 a 3 := (by rw [e_s1, zU_at (Or.inr (by decide))])
      have f26 := zf hS0 ha (k := 3) rfl
      have g27 : s1 a 7 = s0 a 7 := (by rw [e_s1, zU_at (Or.inr (by decide))])
      have f28 := zf hS0 ha (k := 7) rfl
      have g29 : s1 a 21 = s0 a 21 := (by rw [e_s1, zU_at (Or.inr (by decide))])
      have f30 := zf hS0 ha (k := 21) rfl
      have g31 : s1 a 22 = s0 a 22 := (by rw [e_s1, zU_at (Or.inr (by decide))])
      have f32 := zf hS0 ha (k := 22) rfl
      have g33 : s1 a 23 = s0 a 23 := (by rw [e_s1, zU_at (Or.inr (by decide))])
      have f34 := zf hS0 ha (k := 23) rfl
      have g35 : s1 a 24 = s0 a 24 := (by rw [e_s1, zU_at (Or.inr (by decide))])
      have f36 := zf hS0 ha (k := 24) rfl
      have g37 : s1 a 38 = s0 a 38 := (by rw [e_s1, zU_at (Or.inr (by decide))])
      have f38 := zf hS0 ha (k := 38) rfl
      have g39 : s1 a 51 = s0 a 51 := (by rw [e_s1, zU_at (Or.inr (by decide))])
      have f40 := zf hS0 ha (k := 51) rfl
      have g41 : s1 a 52 = s0 a 52 := (by rw [e_s1, zU_at (Or.inr (by decide))])
      have f42 := zf hS0 ha (k := 52) rfl
      exact j_vret hx hq rfl (by decide) (by decide) dX12_sign_41 ⟨rfl, rfl, hS_s1, (zFr_u zFr_rf e_s1 ha (by decide)), ⟨by omega, by omega, by omega, by omega, by omega, by omega, by omega, by omega, by omega, by omega, by omega, by omega, by omega, by omega⟩⟩
  · skip
    refine j_aload_n hx 0 dX12_sign_7 rfl ?_
    have f43 := zf hS0 ha (k := 4) rfl
    have f44 := zf hS0 ha (k := 3) rfl
    have f45 := zf hS0 ha (k := 0) rfl
    have f46 := zf hS0 ha (k := 5) rfl
    have f47 := zf hS0 ha (k := 7) rfl
    have f48 := zf hS0 ha (k := 21) rfl
    have f49 := zf hS0 ha (k := 22) rfl
    have f50 := zf hS0 ha (k := 23) rfl
    have f51 := zf hS0 ha (k := 24) rfl
    have f52 := zf hS0 ha (k := 38) rfl
    have f53 := zf hS0 ha (k := 51) rfl
    have f54 := zf hS0 ha (k := 52) rfl
    refine j_callV hx hG (c_X12_here hst a) lk_RX12_149 ha (by decide) rfl rfl rfl rfl [] ⟨rfl, hG, hS0, ha⟩ rfl rfl ⟨by decide, by decide⟩ ⟨by decide, by decide⟩ (k2 := 0) (n2 := 0) rfl rfl (Nat.le_of_ble_eq_true rfl) dX12_sign_8 (kIM (fun v55 s2 hS_s2 hF_s2 q56 => ?_))
    refine j_iload_n hx 1 dX12_sign_11 rfl ?_
    refine j_icmp_eq hx 24 dX12_sign_12 rfl (by omega) (by omega) (fun h57 => ?_) (fun h57 => ?_)
    · skip
      refine j_aload_n hx 0 dX12_sign_24 rfl ?_
      refine j_callV hx hG (c_X12_fine hst a) lk_RX12_166 ha (by decide) rfl rfl rfl rfl [] ⟨rfl, hG, hS_s2, ha⟩ rfl rfl ⟨by decide, by decide⟩ ⟨by decide, by decide⟩ (k2 := 0) (n2 := 0) rfl rfl (Nat.le_of_ble_eq_true rfl) dX12_sign_25 (kIP (fun v58 q59 => ?_))
      refine j_if_eq hx 41 dX12_sign_28 rfl (by omega) (fun h60 => ?_) (fun h60 => ?_)
      · skip
        have f61 := zf hS_s2 ha (k := 4) rfl
        have f62 := zf hS_s2 ha (k := 5) rfl
        have f63 := zf hS_s2 ha (k := 0) rfl
        have f64 := zf hS_s2 ha (k := 3) rfl
        have f65 := zf hS_s2 ha (k := 7) rfl
        have f66 := zf hS_s2 ha (k := 21) rfl
        have f67 := zf hS_s2 ha (k := 22) rfl
        have f68 := zf hS_s2 ha (k := 23) rfl
        have f69 := zf hS_s2 ha (k := 24) rfl
        have f70 := zf hS_s2 ha (k := 38) rfl
        have f71 := zf hS_s2 ha (k := 51) rfl
        have f72 := zf hS_s2 ha (k := 52) rfl
        exact j_vret hx hq rfl (by decide) (by decide) dX12_sign_41 ⟨rfl, rfl, hS_s2, (zFr_t zFr_rf hF_s2 (by decide)), ⟨by omega, by omega, by omega, by omega, by omega, by omega, by omega, by omega, by omega, by omega, by omega, by omega, by omega, by omega⟩⟩
      · skip
        refine j_aload_n hx 0 dX12_sign_31 rfl ?_
        refine j_dup hx dX12_sign_32 rfl ?_
        have f73 := zf hS_s2 ha (k := 4) rfl
        refine g13_4 hx hG ha kf_RX12_143 rfl dX12_sign_33 ?_
        refine j_iconst hx dX12_sign_36 ?_
        refine j_iadd hx (r := (s2 a 4) + 1) dX12_sign_37 (by omega) ?_
        refine p13_4 hx hG ha kf_RX12_143 dX12_sign_38 ?_
        obtain ⟨s3, e_s3⟩ : ∃ z, z = zU s2 a 4 ((s2 a 4) + 1) := ⟨_, rfl⟩
        rw [← e_s3]
        have hS_s3 : zSK G s3 := by rw [e_s3]; exact zSK_F hS_s2 ha rfl rfl rfl (by omega)
        have g74 : s3 a 4 = (s2 a 4) + 1 := (by rw [e_s3, zU_eq])
        have g75 : s3 a 5 = s2 a 5 := (by rw [e_s3, zU_at (Or.inr (by decide))])
        have f76 := zf hS_s2 ha (k := 5) rfl
        have g77 : s3 a 0 = s2 a 0 := (by rw [e_s3, zU_at (Or.inr (by decide))])
        have f78 := zf hS_s2 ha (k := 0) rfl
        have g79 : s3 a 3 = s2 a 3 := (by rw [e_s3, zU_at (Or.inr (by decide))])
        have f80 := zf hS_s2 ha (k := 3) rfl
        have g81 : s3 a 7 = s2 a 7 := (by rw [e_s3, zU_at (Or.inr (by decide))])
        have f82 := zf hS_s2 ha (k := 7) rfl
        have g83 : s3 a 21 = s2 a 21 := (by rw [e_s3, zU_at (Or.inr (by decide))])
        have f84 := zf hS_s2 ha (k := 21) rfl
        have g85 : s3 a 22 = s2 a 22 := (by rw [e_s3, zU_at (Or.inr (by decide))])
        have f86 := zf hS_s2 ha (k := 22) rfl
        have g87 : s3 a 23 = s2 a 23 := (by rw [e_s3, zU_at (Or.inr (by decide))])
        have f88 := zf hS_s2 ha (k := 23) rfl
        have g89 : s3 a 24 = s2 a 24 := (by rw [e_s3, zU_at (Or.inr (by decide))])
        have f90 := zf hS_s2 ha (k := 24) rfl
        have g91 : s3 a 38 = s2 a 38 := (by rw [e_s3, zU_at (Or.inr (by decide))])
        have f92 := zf hS_s2 ha (k := 38) rfl
        have g93 : s3 a 51 = s2 a 51 := (by rw [e_s3, zU_at (Or.inr (by decide))])
        have f94 := zf hS_s2 ha (k := 51) rfl
        have g95 : s3 a 52 = s2 a 52 := (by rw [e_s3, zU_at (Or.inr (by decide))])
        have f96 := zf hS_s2 ha (k := 52) rfl
        exact j_vret hx hq rfl (by decide) (by decide) dX12_sign_41 ⟨rfl, rfl, hS_s3, (zFr_u (zFr_t zFr_rf hF_s2 (by decide)) e_s3 ha (by decide)), ⟨by omega, by omega, by omega, by omega, by omega, by omega, by omega, by omega, by omega, by omega, by omega, by omega, by omega, by omega⟩⟩
    · skip
      refine j_aload_n hx 0 dX12_sign_15 rfl ?_
      refine j_iconst hx dX12_sign_16 ?_
      refine j_aload_n hx 0 dX12_sign_17 rfl ?_
      have f97 := zf hS_s2 ha (k := 4) rfl
      refine g13_4 hx hG ha kf_RX12_143 rfl dX12_sign_18 ?_
      have f98 := zf hS_s2 ha (k := 0) rfl
      have f99 := zf hS_s2 ha (k := 3) rfl
      have f100 := zf hS_s2 ha (k := 7) rfl
      have f101 := zf hS_s2 ha (k := 21) rfl
      have f102 := zf hS_s2 ha (k := 22) rfl
      have f103 := zf hS_s2 ha (k := 23) rfl
      have f104 := zf hS_s2 ha (k := 24) rfl
      have f105 := zf hS_s2 ha (k := 38) rfl
      have f106 := zf hS_s2 ha (k := 51) rfl
      have f107 := zf hS_s2 ha (k := 52) rfl
      refine j_callV hx hG (c_X12_wrong hst a 1 ((s2 a 4))) lk_RX12_173 ha (by decide) rfl rfl rfl rfl [.int (zI 1), .int (zI ((s2 a 4)))] ⟨rfl, hG, hS_s2, ha, (by omega), (by omega)⟩ rfl rfl ⟨by decide, by decide⟩ ⟨by decide, by decide⟩ (k2 := 0) (n2 := 0) rfl rfl (Nat.le_of_ble_eq_true rfl) dX12_sign_21 (kVM (fun s4 hS_s4 hF_s4 q109 => ?_))
      refine j_aload_n hx 0 dX12_sign_24 rfl ?_
      refine j_callV hx hG (c_X12_fine hst a) lk_RX12_166 ha (by decide) rfl rfl rfl rfl [] ⟨rfl, hG, hS_s4, ha⟩ rfl rfl ⟨by decide, by decide⟩ ⟨by decide, by decide⟩ (k2 := 0) (n2 := 0) rfl rfl (Nat.le_of_ble_eq_true rfl) dX12_sign_25 (kIP (fun v110 q111 => ?_))
      refine j_if_eq hx 41 dX12_sign_28 rfl (by omega) (fun h112 => ?_) (fun h112 => ?_)
      · skip
        have f113 := zf hS_s4 ha (k := 4) rfl
        have f114 := zf hS_s4 ha (k := 5) rfl
        have f115 := zf hS_s4 ha (k := 0) rfl
        have f116 := zf hS_s4 ha (k := 3) rfl
        have f117 := zf hS_s4 ha (k := 7) rfl
        have f118 := zf hS_s4 ha (k := 21) rfl
        have f119 := zf hS_s4 ha (k := 22) rfl
        have f120 := zf hS_s4 ha (k := 23) rfl
        have f121 := zf hS_s4 ha (k := 24) rfl
        have f122 := zf hS_s4 ha (k := 38) rfl
        have f123 := zf hS_s4 ha (k := 51) rfl
        have f124 := zf hS_s4 ha (k := 52) rfl
        exact j_vret hx hq rfl (by decide) (by decide) dX12_sign_41 ⟨rfl, rfl, hS_s4, (zFr_t (zFr_t zFr_rf hF_s2 (by decide)) hF_s4 (by decide)), ⟨by omega, by omega, by omega, by omega, by omega, by omega, by omega, by omega, by omega, by omega, by omega, by omega, by omega, by omega⟩⟩
      · skip
        refine j_aload_n hx 0 dX12_sign_31 rfl ?_
        refine j_dup hx dX12_sign_32 rfl ?_
        have f125 := zf hS_s4 ha (k := 4) rfl
        refine g13_4 hx hG ha kf_RX12_143 rfl dX12_sign_33 ?_
        refine j_iconst hx dX12_sign_36 ?_
        refine j_iadd hx (r := (s4 a 4) + 1) dX12_sign_37 (by omega) ?_
        refine p13_4 hx hG ha kf_RX12_143 dX12_sign_38 ?_
        obtain ⟨s5, e_s5⟩ : ∃ z, z = zU s4 a 4 ((s4 a 4) + 1) := ⟨_, rfl⟩
        rw [← e_s5]
        have hS_s5 : zSK G s5 := by rw [e_s5]; exact zSK_F hS_s4 ha rfl rfl rfl (by omega)
        have g126 : s5 a 4 = (s4 a 4) + 1 := (by rw [e_s5, zU_eq])
        have g127 : s5 a 5 = s4 a 5 := (by rw [e_s5, zU_at (Or.inr (by decide))])
        have f128 := zf hS_s4 ha (k := 5) rfl
        have g129 : s5 a 0 = s4 a 0 := (by rw [e_s5, zU_at (Or.inr (by decide))])
        have f130 := zf hS_s4 ha (k := 0) rfl
        have g131 : s5 a 3 = s4 a 3 := (by rw [e_s5, zU_at (Or.inr (by decide))])
        have f132 := zf hS_s4 ha (k := 3) rfl
        have g133 : s5 a 7 = s4 a 7 := (by rw [e_s5, zU_at (Or.inr (by decide))])
        have f134 := zf hS_s4 ha (k := 7) rfl
        have g135 : s5 a 21 = s4 a 21 := (by rw [e_s5, zU_at (Or.inr (by decide))])
        have f136 := zf hS_s4 ha (k := 21) rfl
        have g137 : s5 a 22 = s4 a 22 := (by rw [e_s5, zU_at (Or.inr (by decide))])
        have f138 := zf hS_s4 ha (k := 22) rfl
        have g139 : s5 a 23 = s4 a 23 := (by rw [e_s5, zU_at (Or.inr (by decide))])
        have f140 := zf hS_s4 ha (k := 23) rfl
        have g141 : s5 a 24 = s4 a 24 := (by rw [e_s5, zU_at (Or.inr (by decide))])
        have f142 := zf hS_s4 ha (k := 24) rfl
        have g143 : s5 a 38 = s4 a 38 := (by rw [e_s5, zU_at (Or.inr (by decide))])
        have f144 := zf hS_s4 ha (k := 38) rfl
        have g145 : s5 a 51 = s4 a 51 := (by rw [e_s5, zU_at (Or.inr (by decide))])
        have f146 := zf hS_s4 ha (k := 51) rfl
        have g147 : s5 a 52 = s4 a 52 := (by rw [e_s5, zU_at (Or.inr (by decide))])
        have f148 := zf hS_s4 ha (k := 52) rfl
        exact j_vret hx hq rfl (by decide) (by decide) dX12_sign_41 ⟨rfl, rfl, hS_s5, (zFr_u (zFr_t (zFr_t zFr_rf hF_s2 (by decide)) hF_s4 (by decide)) e_s5 ha (by decide)), ⟨by omega, by omega, by omega, by omega, by omega, by omega, by omega, by omega, by omega, by omega, by omega, by omega, by omega, by omega⟩⟩

set_option maxHeartbeats 4000000 in
set_option maxRecDepth 20000 in
theorem c_X12_result {E : zE} {l : Launch} (hst : l.stackTraces = false) (a : Nat) (x1 : Int) : Con E l yX12_result cX12_result 2 (some .int) { frames := 1, cells := 0, slots := 0, locals := 20 } (fun G s vs => vs = [.ref a, .int (zI x1)] ∧ zGK G ∧ zSK G s ∧ (gT G a = 13) ∧ ((-2147483648) ≤ x1 ∧ x1 ≤ 2147483647)) (fun G s _ => pI (fun r G2 s2 => G2 = G ∧ zSK G s2 ∧ zFr [13] G s s2 ∧ ((-2147483648) ≤ r ∧ r ≤ 2147483647) ∧ s2 a 0 = s a 0 ∧ s2 a 3 = s a 3 ∧ s2 a 4 = s a 4 ∧ s2 a 5 = s a 5 ∧ s2 a 7 = s a 7 ∧ s2 a 21 = s a 21 ∧ s2 a 22 = s a 22 ∧ s2 a 23 = s a 23 ∧ s2 a 24 = s a 24 ∧ s2 a 38 = s a 38 ∧ s2 a 51 = s a 51 ∧ s2 a 52 = s a 52)) := by
  refine Con.mk hst (by decide) (fun G s vs h => by rw [h.1]; exact Nat.le_of_ble_eq_true rfl) ?_
  rintro X G s0 vs ⟨rfl, hG, hS0, ha, hx1⟩ rfl hx hq
  show JJ X E 2 G s0 0 0 [(0, .ref a), (1, .int (zI x1))] 0 []
  refine j_aload_n hx 0 dX12_result_0 rfl ?_
  refine j_aload_n hx 0 dX12_result_1 rfl ?_
  have f1 := zf hS0 ha (k := 5) rfl
  refine g13_5 hx hG ha kf_RX12_137 rfl dX12_result_2 ?_
  refine p13_8 hx hG ha kf_RX12_17 dX12_result_5 ?_
  obtain ⟨s1, e_s1⟩ : ∃ z, z = zU s0 a 8 ((s0 a 5)) := ⟨_, rfl⟩
  rw [← e_s1]
  have hS_s1 : zSK G s1 := by rw [e_s1]; exact zSK_F hS0 ha rfl rfl rfl (by omega)
  refine j_aload_n hx 0 dX12_result_8 rfl ?_
  refine j_callV hx hG (c_X12_fine hst a) lk_RX12_166 ha (by decide) rfl rfl rfl rfl [] ⟨rfl, hG, hS_s1, ha⟩ rfl rfl ⟨by decide, by decide⟩ ⟨by decide, by decide⟩ (k2 := 0) (n2 := 0) rfl rfl (Nat.le_of_ble_eq_true rfl) dX12_result_9 (kIP (fun v2 q3 => ?_))
  refine j_if_eq hx 19 dX12_result_12 rfl (by omega) (fun h4 => ?_) (fun h4 => ?_)
  · skip
    refine j_aload_n hx 0 dX12_result_19 rfl ?_
    have f5 := zf hS0 ha (k := 6) rfl
    refine g13_6 hx hG ha kf_RX12_140 (v := (s0 a 6)) (by rw [e_s1, zU_at (Or.inr (by decide))]) dX12_result_20 ?_
    refine j_bipush hx dX12_result_23 rfl ?_
    refine j_isub hx (r := (s0 a 6) - 10) dX12_result_25 (by omega) ?_
    have g6 : s1 a 0 = s0 a 0 := (by rw [e_s1, zU_at (Or.inr (by decide))])
    have f7 := zf hS0 ha (k := 0) rfl
    have g8 : s1 a 3 = s0 a 3 := (by rw [e_s1, zU_at (Or.inr (by decide))])
    have f9 := zf hS0 ha (k := 3) rfl
    have g10 : s1 a 4 = s0 a 4 := (by rw [e_s1, zU_at (Or.inr (by decide))])
    have f11 := zf hS0 ha (k := 4) rfl
    have g12 : s1 a 5 = s0 a 5 := (by rw [e_s1, zU_at (Or.inr (by decide))])
    have g13 : s1 a 7 = s0 a 7 := (by rw [e_s1, zU_at (Or.inr (by decide))])
    have f14 := zf hS0 ha (k := 7) rfl
    have g15 : s1 a 21 = s0 a 21 := (by rw [e_s1, zU_at (Or.inr (by decide))])
    have f16 := zf hS0 ha (k := 21) rfl
    have g17 : s1 a 22 = s0 a 22 := (by rw [e_s1, zU_at (Or.inr (by decide))])
    have f18 := zf hS0 ha (k := 22) rfl
    have g19 : s1 a 23 = s0 a 23 := (by rw [e_s1, zU_at (Or.inr (by decide))])
    have f20 := zf hS0 ha (k := 23) rfl
    have g21 : s1 a 24 = s0 a 24 := (by rw [e_s1, zU_at (Or.inr (by decide))])
    have f22 := zf hS0 ha (k := 24) rfl
    have g23 : s1 a 38 = s0 a 38 := (by rw [e_s1, zU_at (Or.inr (by decide))])
    have f24 := zf hS0 ha (k := 38) rfl
    have g25 : s1 a 51 = s0 a 51 := (by rw [e_s1, zU_at (Or.inr (by decide))])
    have f26 := zf hS0 ha (k := 51) rfl
    have g27 : s1 a 52 = s0 a 52 := (by rw [e_s1, zU_at (Or.inr (by decide))])
    have f28 := zf hS0 ha (k := 52) rfl
    exact j_iret hx hq rfl (by decide) (by decide) dX12_result_26 ⟨(s0 a 6) - 10, rfl, rfl, hS_s1, (zFr_u zFr_rf e_s1 ha (by decide)), ⟨(by omega), by omega, by omega, by omega, by omega, by omega, by omega, by omega, by omega, by omega, by omega, by omega, by omega⟩⟩
  · skip
    refine j_iload_n hx 1 dX12_result_15 rfl ?_
    refine j_goto hx 26 dX12_result_16 rfl ?_
    have g29 : s1 a 0 = s0 a 0 := (by rw [e_s1, zU_at (Or.inr (by decide))])
    have f30 := zf hS0 ha (k := 0) rfl
    have g31 : s1 a 3 = s0 a 3 := (by rw [e_s1, zU_at (Or.inr (by decide))])
    have f32 := zf hS0 ha (k := 3) rfl
    have g33 : s1 a 4 = s0 a 4 := (by rw [e_s1, zU_at (Or.inr (by decide))])
    have f34 := zf hS0 ha (k := 4) rfl
    have g35 : s1 a 5 = s0 a 5 := (by rw [e_s1, zU_at (Or.inr (by decide))])
    have g36 : s1 a 7 = s0 a 7 := (by rw [e_s1, zU_at (Or.inr (by decide))])
    have f37 := zf hS0 ha (k := 7) rfl
    have g38 : s1 a 21 = s0 a 21 := (by rw [e_s1, zU_at (Or.inr (by decide))])
    have f39 := zf hS0 ha (k := 21) rfl
    have g40 : s1 a 22 = s0 a 22 := (by rw [e_s1, zU_at (Or.inr (by decide))])
    have f41 := zf hS0 ha (k := 22) rfl
    have g42 : s1 a 23 = s0 a 23 := (by rw [e_s1, zU_at (Or.inr (by decide))])
    have f43 := zf hS0 ha (k := 23) rfl
    have g44 : s1 a 24 = s0 a 24 := (by rw [e_s1, zU_at (Or.inr (by decide))])
    have f45 := zf hS0 ha (k := 24) rfl
    have g46 : s1 a 38 = s0 a 38 := (by rw [e_s1, zU_at (Or.inr (by decide))])
    have f47 := zf hS0 ha (k := 38) rfl
    have g48 : s1 a 51 = s0 a 51 := (by rw [e_s1, zU_at (Or.inr (by decide))])
    have f49 := zf hS0 ha (k := 51) rfl
    have g50 : s1 a 52 = s0 a 52 := (by rw [e_s1, zU_at (Or.inr (by decide))])
    have f51 := zf hS0 ha (k := 52) rfl
    exact j_iret hx hq rfl (by decide) (by decide) dX12_result_26 ⟨x1, rfl, rfl, hS_s1, (zFr_u zFr_rf e_s1 ha (by decide)), ⟨(by omega), by omega, by omega, by omega, by omega, by omega, by omega, by omega, by omega, by omega, by omega, by omega, by omega⟩⟩

set_option maxHeartbeats 4000000 in
set_option maxRecDepth 20000 in
theorem c_X12_forgets {E : zE} {l : Launch} (hst : l.stackTraces = false) (a : Nat) : Con E l yX12_forgets cX12_forgets 2 none { frames := 0, cells := 0, slots := 0, locals := 0 } (fun G s vs => vs = [.ref a] ∧ zGK G ∧ zSK G s ∧ (gT G a = 13)) (fun G s _ => pV (fun G2 s2 => G2 = G ∧ zSK G s2 ∧ zFr [87] G s s2 ∧ True)) := by
  refine Con.mk hst (by decide) (fun G s vs h => by rw [h.1]; exact Nat.le_of_ble_eq_true rfl) ?_
  rintro X G s0 vs ⟨rfl, hG, hS0, ha⟩ rfl hx hq
  show JJ X E 2 G s0 0 0 [(0, .ref a)] 0 []
  refine j_iconst hx dX12_forgets_0 ?_
  refine j_istore_n hx [(1, .int (zI 0)), (0, .ref a)] dX12_forgets_1 (by decide) rfl ?_
  have c2_1 : ∀ (m_c2_1 : Nat) (v1 : Int) (s2 : zS), 2147483648 - v1 < m_c2_1 → (0 ≤ v1 ∧ v1 ≤ 5) → (zSK G s2) → (zFr [87] G s0 s2) → JJ X E 2 G s2 0 0 [(0, .ref a), (1, .int (zI v1))] 2 [] := by
    intro m_c2_1
    induction m_c2_1 with
    | zero => intro v1 s2 hm_c2_1 fA3 hS_s2 hF_s2; exfalso; omega
    | succ m_c2_1 ih_c2_1 => 
      intro v1 s2 hm_c2_1 fA3 hS_s2 hF_s2
      refine j_iload_n hx 1 dX12_forgets_2 rfl ?_
      refine j_iconst hx dX12_forgets_3 ?_
      refine j_icmp_ge hx 20 dX12_forgets_4 rfl (by omega) ⟨by decide, by decide⟩ (fun h2 => ?_) (fun h2 => ?_)
      · skip
        exact j_vret hx hq rfl (by decide) (by decide) dX12_forgets_20 ⟨rfl, rfl, hS_s2, (zFr_t zFr_rf hF_s2 (by decide)), trivial⟩
      · skip
        refine j_aload_n hx 0 dX12_forgets_7 rfl ?_
        refine g13_30 hx hG ha kf_RX12_65 dX12_forgets_8 ?_
        refine j_iload_n hx 1 dX12_forgets_11 rfl ?_
        refine j_iconst hx dX12_forgets_12 ?_
        refine j_iast hx hG (zr (k := 30) (t2 := 87) hG ha rfl) (by decide) rfl (zlen hG (zr (k := 30) (t2 := 87) hG ha rfl) (n := 5) rfl rfl) (by omega) (by omega) (j := (v1).toNat) rfl dX12_forgets_13 ?_
        obtain ⟨s6, e_s6⟩ : ∃ z, z = zU s2 (gP G a 30) (v1).toNat (-1) := ⟨_, rfl⟩
        rw [← e_s6]
        have hS_s6 : zSK G s6 := by rw [e_s6]; exact zSK_A hS_s2 (zr (k := 30) (t2 := 87) hG ha rfl) rfl rfl rfl (by omega)
        refine j_iinc hx 1 [(1, .int (zI (v1 + 1))), (0, .ref a)] dX12_forgets_14 rfl (by omega) (by decide) rfl ?_
        refine j_goto hx 2 dX12_forgets_17 rfl ?_
        exact j_sub [1, 0] [(0, .ref a), (1, .int (zI (v1 + 1)))] rfl (ih_c2_1 (v1 + 1) s6 (by omega) (by omega) hS_s6 (zFr_u (zFr_t zFr_rf hF_s2 (by decide)) e_s6 (zr (k := 30) (t2 := 87) hG ha rfl) (by decide)))
  exact j_sub [1, 0] [(0, .ref a), (1, .int (zI 0))] rfl (c2_1 (2147483648 * 4) 0 s0 (by omega) (by omega) hS0 zFr_rf)

set_option maxHeartbeats 4000000 in
set_option maxRecDepth 20000 in
theorem c_X12_stays {E : zE} {l : Launch} (hst : l.stackTraces = false) (a : Nat) : Con E l yX12_stays cX12_stays 2 none { frames := 0, cells := 0, slots := 0, locals := 0 } (fun G s vs => vs = [.ref a] ∧ zGK G ∧ zSK G s ∧ (gT G a = 13)) (fun G s _ => pV (fun G2 s2 => G2 = G ∧ zSK G s2 ∧ zFr [85] G s s2 ∧ zc (s2 (gP G a 28)) = zc (s (gP G a 27)) ∧ s2 (gP G a 28) 488 = s (gP G a 27) 488)) := by
  refine Con.mk hst (by decide) (fun G s vs h => by rw [h.1]; exact Nat.le_of_ble_eq_true rfl) ?_
  rintro X G s0 vs ⟨rfl, hG, hS0, ha⟩ rfl hx hq
  show JJ X E 2 G s0 0 0 [(0, .ref a)] 0 []
  refine j_iconst hx dX12_stays_0 ?_
  refine j_istore_n hx [(1, .int (zI 0)), (0, .ref a)] dX12_stays_1 (by decide) rfl ?_
  have c2_1 : ∀ (m_c2_1 : Nat) (v1 : Int) (s2 : zS), 2147483648 - v1 < m_c2_1 → (0 ≤ v1 ∧ v1 ≤ 515) → (zSK G s2) → (zFr [85] G s0 s2) → (zEq (v1).toNat (s2 (gP G a 28)) (s0 (gP G a 27))) → JJ X E 2 G s2 0 0 [(0, .ref a), (1, .int (zI v1))] 2 [] := by
    intro m_c2_1
    induction m_c2_1 with
    | zero => intro v1 s2 hm_c2_1 fA3 hS_s2 hF_s2 hE1; exfalso; omega
    | succ m_c2_1 ih_c2_1 => 
      intro v1 s2 hm_c2_1 fA3 hS_s2 hF_s2 hE1
      refine j_iload_n hx 1 dX12_stays_2 rfl ?_
      refine j_sipush hx dX12_stays_3 rfl ?_
      refine j_icmp_ge hx 27 dX12_stays_6 rfl (by omega) ⟨by decide, by decide⟩ (fun h2 => ?_) (fun h2 => ?_)
      · skip
        exact j_vret hx hq rfl (by decide) (by decide) dX12_stays_27 ⟨rfl, rfl, hS_s2, (zFr_t zFr_rf hF_s2 (by decide)), ⟨by omega, by omega⟩⟩
      · skip
        refine j_aload_n hx 0 dX12_stays_9 rfl ?_
        refine g13_28 hx hG ha kf_RX12_59 dX12_stays_10 ?_
        refine j_iload_n hx 1 dX12_stays_13 rfl ?_
        refine j_aload_n hx 0 dX12_stays_14 rfl ?_
        refine g13_27 hx hG ha kf_RX12_56 dX12_stays_15 ?_
        refine j_iload_n hx 1 dX12_stays_18 rfl ?_
        have f3 := zah (j := (v1).toNat) hS0 (zr (k := 27) (t2 := 84) hG ha rfl) (fun k => ⟨_, rfl, (axS_h _).1, (axS_h _).2.1⟩) (zlen hG (zr (k := 27) (t2 := 84) hG ha rfl) (n := 515) rfl rfl) (show 0 ≤ v1 by omega) (by omega) rfl
        refine j_iald hx hG (zr (k := 27) (t2 := 84) hG ha rfl) (by decide) rfl (zlen hG (zr (k := 27) (t2 := 84) hG ha rfl) (n := 515) rfl rfl) (by omega) (by omega) (j := (v1).toNat) rfl (v := (s0 (gP G a 27) (v1).toNat)) (by rw [(zFr_g hF_s2 (zr (k := 27) (t2 := 84) hG ha rfl) (by decide))]) dX12_stays_19 ?_
        refine j_iast hx hG (zr (k := 28) (t2 := 85) hG ha rfl) (by decide) rfl (zlen hG (zr (k := 28) (t2 := 85) hG ha rfl) (n := 515) rfl rfl) (by omega) (by omega) (j := (v1).toNat) rfl dX12_stays_20 ?_
        obtain ⟨s7, e_s7⟩ : ∃ z, z = zU s2 (gP G a 28) (v1).toNat ((s0 (gP G a 27) (v1).toNat)) := ⟨_, rfl⟩
        rw [← e_s7]
        have hS_s7 : zSK G s7 := by rw [e_s7]; exact zSK_cq hS_s2 hS0 (zr (k := 28) (t2 := 85) hG ha rfl) (zr (k := 27) (t2 := 84) hG ha rfl) (fun _ => rfl) rfl (j2 := (v1).toNat) (by rfl) (by have := (zlen hG (zr (k := 27) (t2 := 84) hG ha rfl) (n := 515) rfl rfl); omega) rfl
        refine j_iinc hx 1 [(1, .int (zI (v1 + 1))), (0, .ref a)] dX12_stays_21 rfl (by omega) (by decide) rfl ?_
        refine j_goto hx 2 dX12_stays_24 rfl ?_
        exact j_sub [1, 0] [(0, .ref a), (1, .int (zI (v1 + 1)))] rfl (ih_c2_1 (v1 + 1) s7 (by omega) (by omega) hS_s7 (zFr_u (zFr_t zFr_rf hF_s2 (by decide)) e_s7 (zr (k := 28) (t2 := 85) hG ha rfl) (by decide)) (zEq_s hE1 e_s7 (by omega) rfl))
  exact j_sub [1, 0] [(0, .ref a), (1, .int (zI 0))] rfl (c2_1 (2147483648 * 4) 0 s0 (by omega) (by omega) hS0 zFr_rf (zEq_0 (by omega)))
