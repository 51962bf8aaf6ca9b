theorem lk_RX12_308 : LkV RX12 308 RX12 yX12_readKind cX12_readKind 3 (some .int) 0 := ⟨km_RX12_308, ki_yX12_readKind, ks_RX12_yX12_readKind, kn_RX12, kc_yX12_readKind, rfl, by decide +kernel, by decide +kernel, by decide +kernel⟩
theorem lk_RX12_311 : LkV RX12 311 RX12 yX12_readHeld cX12_readHeld 5 none 2 := ⟨km_RX12_311, ki_yX12_readHeld, ks_RX12_yX12_readHeld, kn_RX12, kc_yX12_readHeld, rfl, by decide +kernel, by decide +kernel, by decide +kernel⟩
theorem lk_RX12_286 : LkV RX12 286 RX12 yX12_opensOne cX12_opensOne 2 none 1 := ⟨km_RX12_286, ki_yX12_opensOne, ks_RX12_yX12_opensOne, kn_RX12, kc_yX12_opensOne, rfl, by decide +kernel, by decide +kernel, by decide +kernel⟩
theorem lk_RX12_289 : LkV RX12 289 RX12 yX12_readAny cX12_readAny 1 none 0 := ⟨km_RX12_289, ki_yX12_readAny, ks_RX12_yX12_readAny, kn_RX12, kc_yX12_readAny, rfl, by decide +kernel, by decide +kernel, by decide +kernel⟩
set_option maxHeartbeats 1200000 in
set_option maxRecDepth 20000 in
theorem c_X12_readOne_6 {E : zE} {l : Launch} (hst : l.stackTraces = false) (a : Nat) : Con E l yX12_readOne cX12_readOne 4 none { frames := 6, cells := 0, slots := 0, locals := 242 } (fun G s vs => vs = [.ref a] ∧ zGK G ∧ zSK G s ∧ (gT G a = 13) ∧ (s a 7 = 6) ∧ (s a 3 ≤ 150) ∧ (s a 4 ≤ s a 3 + 2) ∧ (s a 5 = -1 → s a 38 ≤ s a 4) ∧ (zNv (s a 5) (s (gP G a 31)) (s (gP G a 32)) (s a 38))) (fun G s _ => pV (fun G2 s2 => G2 = G ∧ zSK G s2 ∧ zFr [13, 88, 89, 90] G s s2 ∧ s a 4 ≤ s2 a 4 ∧ s a 5 ≤ s2 a 5 ∧ s2 a 4 ≤ s a 3 + 2 ∧ s2 a 7 = 6 ∧ (s2 a 5 = -1 → (zRp (s2 (gP G a 31)) 0 (s2 a 38).toNat = zRp (s (gP G a 31)) 0 (s a 38).toNat + 1 ∧ s a 38 + 1 ≤ s2 a 38 ∧ s2 a 38 - s a 38 ≤ s2 a 4 - s a 4 ∧ s2 a 4 ≤ s a 3)) ∧ zNv (s2 a 5) (s2 (gP G a 31)) (s2 (gP G a 32)) (s2 a 38) ∧ s2 a 0 = s a 0 ∧ s2 a 3 = s a 3 ∧ s2 a 21 = s a 21 ∧ s2 a 22 = s a 22 ∧ s2 a 23 = s a 23 ∧ s2 a 24 = s a 24 ∧ s2 a 51 = s a 51 ∧ s2 a 52 = s a 52)) := by
  refine Con.mk hst (by decide) (fun G s vs h => by rw [h.1]; exact Nat.le_of_ble_eq_true rfl) ?_
  rintro X G s0 vs ⟨rfl, hG, hS0, ha, e0, e1, e2, e3, e4⟩ rfl hx hq
  show JJ X E 4 G s0 0 0 [(0, .ref a)] 0 []
  have z1 : s0 a 5 = -1 → 0 ≤ zRp (s0 (gP G a 31)) 0 (s0 a 38).toNat := fun h => zRv_nn (e4 h)
  have z2 : tOf 9 = 1451365 := by decide +kernel
  have z3 : tOf 10 = 435653 := by decide +kernel
  have z4 : tOf 12 = 20976 := by decide +kernel
  have z5 : tOf 13 = 463922 := by decide +kernel
  have z6 : tOf 11 = 375287 := by decide +kernel
  have z7 : tOf 14 = 267312 := by decide +kernel
  have z8 : tOf 2 = 18935 := by decide +kernel
  have z9 : tOf 7 = 540140 := by decide +kernel
  have z10 : tOf 15 = 677454 := by decide +kernel
  have z11 : tOf 8 = 14836 := by decide +kernel
  refine j_aload_n hx 0 dX12_readOne_0 rfl ?_
  refine j_callV hx hG (c_X12_fine hst a) lk_RX12_166 ha (by decide) rfl rfl rfl rfl [] ⟨rfl, hG, hS0, ha⟩ rfl rfl ⟨by decide, by decide⟩ ⟨by decide, by decide⟩ (k2 := 0) (n2 := 0) rfl rfl (Nat.le_of_ble_eq_true rfl) dX12_readOne_1 (kIP (fun v12 q13 => ?_))
  refine j_if_ne hx 8 dX12_readOne_4 rfl (by omega) (fun h14 => ?_) (fun h14 => ?_)
  · skip
    refine j_aload_n hx 0 dX12_readOne_8 rfl ?_
    have f15 := zf hS0 ha (k := 4) rfl
    have f16 := zf hS0 ha (k := 3) rfl
    have f17 := zf hS0 ha (k := 0) rfl
    have f18 := zf hS0 ha (k := 5) rfl
    have f19 := zf hS0 ha (k := 21) rfl
    have f20 := zf hS0 ha (k := 22) rfl
    have f21 := zf hS0 ha (k := 23) rfl
    have f22 := zf hS0 ha (k := 24) rfl
    have f23 := zf hS0 ha (k := 38) rfl
    have f24 := zf hS0 ha (k := 51) rfl
    have f25 := zf hS0 ha (k := 52) rfl
    refine j_callV hx hG (c_X12_here_h hst a) lk_RX12_149 ha (by decide) rfl rfl rfl rfl [] ⟨rfl, hG, hS0, ha, (by omega)⟩ rfl rfl ⟨by decide, by decide⟩ ⟨by decide, by decide⟩ (k2 := 0) (n2 := 0) rfl rfl (Nat.le_of_ble_eq_true rfl) dX12_readOne_9 (kIM (fun v26 s1 hS_s1 hF_s1 q27 => ?_))
    refine j_bipush hx dX12_readOne_12 rfl ?_
    refine j_icmp_ne hx 43 dX12_readOne_14 rfl (by omega) ⟨by decide, by decide⟩ (fun h28 => ?_) (fun h28 => ?_)
    · skip
      clear h28
      refine j_aload_n hx 0 dX12_readOne_43 rfl ?_
      have f29 := zf hS_s1 ha (k := 4) rfl
      have f30 := zf hS_s1 ha (k := 3) rfl
      have f31 := zf hS_s1 ha (k := 0) rfl
      have f32 := zf hS_s1 ha (k := 5) rfl
      have f33 := zf hS_s1 ha (k := 7) rfl
      have f34 := zf hS_s1 ha (k := 21) rfl
      have f35 := zf hS_s1 ha (k := 22) rfl
      have f36 := zf hS_s1 ha (k := 23) rfl
      have f37 := zf hS_s1 ha (k := 24) rfl
      have f38 := zf hS_s1 ha (k := 38) rfl
      have f39 := zf hS_s1 ha (k := 51) rfl
      have f40 := zf hS_s1 ha (k := 52) rfl
      refine j_callV hx hG (c_X12_word_h hst a) lk_RX12_250 ha (by decide) rfl rfl rfl rfl [] ⟨rfl, hG, hS_s1, ha, (by omega)⟩ rfl rfl ⟨by decide, by decide⟩ ⟨by decide, by decide⟩ (k2 := 0) (n2 := 0) rfl rfl (Nat.le_of_ble_eq_true rfl) dX12_readOne_44 (kIM (fun v41 s2 hS_s2 hF_s2 q42 => ?_))
      refine j_istore_n hx [(1, .int (zI v41)), (0, .ref a)] dX12_readOne_47 (by decide) rfl ?_
      refine j_iload_n hx 0 dX12_readOne_48 rfl ?_
      refine j_ldcwT hx (i := 8) 28 (by decide) rfl rfl rfl dX12_readOne_49 ?_
      refine j_callS hx (c_X12_of hst 8) lk_RX12_215 [.ref (zTa E 8)] ⟨rfl, hG, hS_s2, (by decide)⟩ rfl rfl ⟨by decide, by decide⟩ ⟨by decide, by decide⟩ (k2 := 0) (n2 := 0) rfl rfl (Nat.le_of_ble_eq_true rfl) dX12_readOne_52 (kIP (fun v43 q44 => ?_))
      refine j_icmp_ne hx 86 dX12_readOne_55 rfl (by omega) (by omega) (fun h45 => ?_) (fun h45 => ?_)
      · skip
        clear h45
        refine j_iload_n hx 0 dX12_readOne_86 rfl ?_
        refine j_ldcwT hx (i := 9) 29 (by decide) rfl rfl rfl dX12_readOne_87 ?_
        refine j_callS hx (c_X12_of hst 9) lk_RX12_215 [.ref (zTa E 9)] ⟨rfl, hG, hS_s2, (by decide)⟩ rfl rfl ⟨by decide, by decide⟩ ⟨by decide, by decide⟩ (k2 := 0) (n2 := 0) rfl rfl (Nat.le_of_ble_eq_true rfl) dX12_readOne_90 (kIP (fun v46 q47 => ?_))
        have c179_3 : ∀ (v48 : Int), (0 ≤ v48 ∧ v48 ≤ 1) → (v48 = 1 → (s2 a 4 < s2 a 3 ∧ 97 ≤ s2 (gP G a 9) (s2 a 4).toNat ∧ s2 (gP G a 9) (s2 a 4).toNat ≤ 122)) → JJ X E 4 G s2 0 0 [(0, .ref a), (1, .int (zI v41))] 179 [.int (zI v48)] := by
          intro v48 fA4 fA5
          refine j_istore_n hx [(2, .int (zI v48)), (0, .ref a), (1, .int (zI v41))] dX12_readOne_179 (by decide) rfl ?_
          refine j_iload_n hx 0 dX12_readOne_180 rfl ?_
          refine j_if_ne hx 194 dX12_readOne_181 rfl (by omega) (fun h49 => ?_) (fun h49 => ?_)
          · skip
            refine j_aload_n hx 1 dX12_readOne_194 rfl ?_
            have f50 := zf hS_s2 ha (k := 4) rfl
            have f51 := zf hS_s2 ha (k := 3) rfl
            have g52 : s2 (gP G a 9) (s2 a 4).toNat = s0 (gP G a 9) (s2 a 4).toNat := (by rw [(zFr_g hF_s2 (zr (k := 9) (t2 := 72) hG ha rfl) (by decide)), (zFr_g hF_s1 (zr (k := 9) (t2 := 72) hG ha rfl) (by decide))])
            have f53 := zf hS_s2 ha (k := 0) rfl
            have f54 := zf hS_s2 ha (k := 5) rfl
            have f55 := zf hS_s2 ha (k := 7) rfl
            have f56 := zf hS_s2 ha (k := 21) rfl
            have f57 := zf hS_s2 ha (k := 22) rfl
            have f58 := zf hS_s2 ha (k := 23) rfl
            have f59 := zf hS_s2 ha (k := 24) rfl
            have f60 := zf hS_s2 ha (k := 38) rfl
            have f61 := zf hS_s2 ha (k := 51) rfl
            have f62 := zf hS_s2 ha (k := 52) rfl
            refine j_callV hx hG (c_X12_pass_h hst a) lk_RX12_256 ha (by decide) rfl rfl rfl rfl [] ⟨rfl, hG, hS_s2, ha, (by omega)⟩ rfl rfl ⟨by decide, by decide⟩ ⟨by decide, by decide⟩ (k2 := 0) (n2 := 0) rfl rfl (Nat.le_of_ble_eq_true rfl) dX12_readOne_195 (kVM (fun s6 hS_s6 hF_s6 q64 => ?_))
            refine j_iload_n hx 2 dX12_readOne_198 rfl ?_
            refine j_ldcwT hx (i := 9) 29 (by decide) rfl rfl rfl dX12_readOne_199 ?_
            refine j_callS hx (c_X12_of hst 9) lk_RX12_215 [.ref (zTa E 9)] ⟨rfl, hG, hS_s6, (by decide)⟩ rfl rfl ⟨by decide, by decide⟩ ⟨by decide, by decide⟩ (k2 := 0) (n2 := 0) rfl rfl (Nat.le_of_ble_eq_true rfl) dX12_readOne_202 (kIP (fun v65 q66 => ?_))
            have c228_7 : JJ X E 4 G s6 0 0 [(0, .ref a), (1, .int (zI v41))] 228 [] := by
              refine j_aload_n hx 0 dX12_readOne_228 rfl ?_
              refine j_iload_n hx 1 dX12_readOne_229 rfl ?_
              refine j_ldcwT hx (i := 9) 29 (by decide) rfl rfl rfl dX12_readOne_230 ?_
              refine j_callS hx (c_X12_of hst 9) lk_RX12_215 [.ref (zTa E 9)] ⟨rfl, hG, hS_s6, (by decide)⟩ rfl rfl ⟨by decide, by decide⟩ ⟨by decide, by decide⟩ (k2 := 0) (n2 := 0) rfl rfl (Nat.le_of_ble_eq_true rfl) dX12_readOne_233 (kIP (fun v67 q68 => ?_))
              refine j_icmp_ne hx 243 dX12_readOne_236 rfl (by omega) (by omega) (fun h69 => ?_) (fun h69 => ?_)
              · skip
                clear h69
                refine j_iload_n hx 1 dX12_readOne_243 rfl ?_
                refine j_ldcwT hx (i := 10) 30 (by decide) rfl rfl rfl dX12_readOne_244 ?_
                refine j_callS hx (c_X12_of hst 10) lk_RX12_215 [.ref (zTa E 10)] ⟨rfl, hG, hS_s6, (by decide)⟩ rfl rfl ⟨by decide, by decide⟩ ⟨by decide, by decide⟩ (k2 := 0) (n2 := 0) rfl rfl (Nat.le_of_ble_eq_true rfl) dX12_readOne_247 (kIP (fun v70 q71 => ?_))
                refine j_icmp_ne hx 257 dX12_readOne_250 rfl (by omega) (by omega) (fun h72 => ?_) (fun h72 => ?_)
                · skip
                  clear h72
                  refine j_iconst hx dX12_readOne_257 ?_
                  refine j_iconst hx dX12_readOne_258 ?_
                  refine j_iconst hx dX12_readOne_259 ?_
                  have f73 := zf hS_s6 ha (k := 5) rfl
                  have f74 := zf hS_s6 ha (k := 38) rfl
                  have g75 : (s6 (gP G a 31)) = (s0 (gP G a 31)) := by rw [hF_s6 (gP G a 31) (by rw [(zr (k := 31) (t2 := 88) hG ha rfl)]; decide), hF_s2 (gP G a 31) (by rw [(zr (k := 31) (t2 := 88) hG ha rfl)]; decide), hF_s1 (gP G a 31) (by rw [(zr (k := 31) (t2 := 88) hG ha rfl)]; decide)]
                  have g76 : zRp (s6 (gP G a 31)) 0 (s6 a 38).toNat = zRp (s0 (gP G a 31)) 0 (s0 a 38).toNat := by rw [g75, show s6 a 38 = s0 a 38 by omega]
                  have f77 := zf hS_s6 ha (k := 0) rfl
                  have f78 := zf hS_s6 ha (k := 3) rfl
                  have f79 := zf hS_s6 ha (k := 4) rfl
                  have f80 := zf hS_s6 ha (k := 7) rfl
                  have f81 := zf hS_s6 ha (k := 21) rfl
                  have f82 := zf hS_s6 ha (k := 22) rfl
                  have f83 := zf hS_s6 ha (k := 23) rfl
                  have f84 := zf hS_s6 ha (k := 24) rfl
                  have f85 := zf hS_s6 ha (k := 51) rfl
                  have f86 := zf hS_s6 ha (k := 52) rfl
                  refine j_callV hx hG (c_X12_emit hst a 5 0 0) lk_RX12_277 ha (by decide) rfl rfl rfl rfl [.int (zI 5), .int (zI 0), .int (zI 0)] ⟨rfl, hG, hS_s6, ha, (by omega), (by omega), (by omega), (by omega), ((by have q1 : s6 (gP G a 31) = s0 (gP G a 31) := (by rw [hF_s6 (gP G a 31) (by rw [(zr (k := 31) (t2 := 88) hG ha rfl)]; decide), hF_s2 (gP G a 31) (by rw [(zr (k := 31) (t2 := 88) hG ha rfl)]; decide), hF_s1 (gP G a 31) (by rw [(zr (k := 31) (t2 := 88) hG ha rfl)]; decide)]); have q2 : s6 (gP G a 32) = s0 (gP G a 32) := (by rw [hF_s6 (gP G a 32) (by rw [(zr (k := 32) (t2 := 89) hG ha rfl)]; decide), hF_s2 (gP G a 32) (by rw [(zr (k := 32) (t2 := 89) hG ha rfl)]; decide), hF_s1 (gP G a 32) (by rw [(zr (k := 32) (t2 := 89) hG ha rfl)]; decide)]); rw [q1, q2]; exact (zNv_k e4 (by omega) (by omega)))), (by omega)⟩ rfl rfl ⟨by decide, by decide⟩ ⟨by decide, by decide⟩ (k2 := 0) (n2 := 0) rfl rfl (Nat.le_of_ble_eq_true rfl) dX12_readOne_260 (kVM (fun s8 hS_s8 hF_s8 q88 => ?_))
                  refine j_goto hx 397 dX12_readOne_263 rfl ?_
                  have f89 := zf hS_s8 ha (k := 4) rfl
                  have f90 := zf hS_s8 ha (k := 5) rfl
                  have f91 := zf hS_s8 ha (k := 7) rfl
                  have f92 := zf hS_s8 ha (k := 38) rfl
                  have f93 := zf hS_s8 ha (k := 0) rfl
                  have f94 := zf hS_s8 ha (k := 3) rfl
                  have f95 := zf hS_s8 ha (k := 21) rfl
                  have f96 := zf hS_s8 ha (k := 22) rfl
                  have f97 := zf hS_s8 ha (k := 23) rfl
                  have f98 := zf hS_s8 ha (k := 24) rfl
                  have f99 := zf hS_s8 ha (k := 51) rfl
                  have f100 := zf hS_s8 ha (k := 52) rfl
                  exact j_vret hx hq rfl (by decide) (by decide) dX12_readOne_397 ⟨rfl, rfl, hS_s8, (zFr_t (zFr_t (zFr_t (zFr_t zFr_rf hF_s1 (by decide)) hF_s2 (by decide)) hF_s6 (by decide)) hF_s8 (by decide)), ⟨by omega, by omega, by omega, by omega, by omega, (zNv_k q88.2.1 (by omega) (by omega)), by omega, by omega, by omega, by omega, by omega, by omega, by omega, by omega⟩⟩
                · skip
                  refine j_iconst hx dX12_readOne_253 ?_
                  refine j_goto hx 258 dX12_readOne_254 rfl ?_
                  refine j_iconst hx dX12_readOne_258 ?_
                  refine j_iconst hx dX12_readOne_259 ?_
                  have f101 := zf hS_s6 ha (k := 5) rfl
                  have f102 := zf hS_s6 ha (k := 38) rfl
                  have g103 : (s6 (gP G a 31)) = (s0 (gP G a 31)) := by rw [hF_s6 (gP G a 31) (by rw [(zr (k := 31) (t2 := 88) hG ha rfl)]; decide), hF_s2 (gP G a 31) (by rw [(zr (k := 31) (t2 := 88) hG ha rfl)]; decide), hF_s1 (gP G a 31) (by rw [(zr (k := 31) (t2 := 88) hG ha rfl)]; decide)]
                  have g104 : zRp (s6 (gP G a 31)) 0 (s6 a 38).toNat = zRp (s0 (gP G a 31)) 0 (s0 a 38).toNat := by rw [g103, show s6 a 38 = s0 a 38 by omega]
                  have f105 := zf hS_s6 ha (k := 0) rfl
                  have f106 := zf hS_s6 ha (k := 3) rfl
                  have f107 := zf hS_s6 ha (k := 4) rfl
                  have f108 := zf hS_s6 ha (k := 7) rfl
                  have f109 := zf hS_s6 ha (k := 21) rfl
                  have f110 := zf hS_s6 ha (k := 22) rfl
                  have f111 := zf hS_s6 ha (k := 23) rfl
                  have f112 := zf hS_s6 ha (k := 24) rfl
                  have f113 := zf hS_s6 ha (k := 51) rfl
                  have f114 := zf hS_s6 ha (k := 52) rfl
                  refine j_callV hx hG (c_X12_emit hst a 2 0 0) lk_RX12_277 ha (by decide) rfl rfl rfl rfl [.int (zI 2), .int (zI 0), .int (zI 0)] ⟨rfl, hG, hS_s6, ha, (by omega), (by omega), (by omega), (by omega), ((by have q1 : s6 (gP G a 31) = s0 (gP G a 31) := (by rw [hF_s6 (gP G a 31) (by rw [(zr (k := 31) (t2 := 88) hG ha rfl)]; decide), hF_s2 (gP G a 31) (by rw [(zr (k := 31) (t2 := 88) hG ha rfl)]; decide), hF_s1 (gP G a 31) (by rw [(zr (k := 31) (t2 := 88) hG ha rfl)]; decide)]); have q2 : s6 (gP G a 32) = s0 (gP G a 32) := (by rw [hF_s6 (gP G a 32) (by rw [(zr (k := 32) (t2 := 89) hG ha rfl)]; decide), hF_s2 (gP G a 32) (by rw [(zr (k := 32) (t2 := 89) hG ha rfl)]; decide), hF_s1 (gP G a 32) (by rw [(zr (k := 32) (t2 := 89) hG ha rfl)]; decide)]); rw [q1, q2]; exact (zNv_k e4 (by omega) (by omega)))), (by omega)⟩ rfl rfl ⟨by decide, by decide⟩ ⟨by decide, by decide⟩ (k2 := 0) (n2 := 0) rfl rfl (Nat.le_of_ble_eq_true rfl) dX12_readOne_260 (kVM (fun s9 hS_s9 hF_s9 q116 => ?_))
                  refine j_goto hx 397 dX12_readOne_263 rfl ?_
                  have f117 := zf hS_s9 ha (k := 4) rfl
                  have f118 := zf hS_s9 ha (k := 5) rfl
                  have f119 := zf hS_s9 ha (k := 7) rfl
                  have f120 := zf hS_s9 ha (k := 38) rfl
                  have f121 := zf hS_s9 ha (k := 0) rfl
                  have f122 := zf hS_s9 ha (k := 3) rfl
                  have f123 := zf hS_s9 ha (k := 21) rfl
                  have f124 := zf hS_s9 ha (k := 22) rfl
                  have f125 := zf hS_s9 ha (k := 23) rfl
                  have f126 := zf hS_s9 ha (k := 24) rfl
                  have f127 := zf hS_s9 ha (k := 51) rfl
                  have f128 := zf hS_s9 ha (k := 52) rfl
                  exact j_vret hx hq rfl (by decide) (by decide) dX12_readOne_397 ⟨rfl, rfl, hS_s9, (zFr_t (zFr_t (zFr_t (zFr_t zFr_rf hF_s1 (by decide)) hF_s2 (by decide)) hF_s6 (by decide)) hF_s9 (by decide)), ⟨by omega, by omega, by omega, by omega, by omega, (zNv_k q116.2.1 (by omega) (by omega)), by omega, by omega, by omega, by omega, by omega, by omega, by omega, by omega⟩⟩
              · skip
                refine j_iconst hx dX12_readOne_239 ?_
                refine j_goto hx 258 dX12_readOne_240 rfl ?_
                refine j_iconst hx dX12_readOne_258 ?_
                refine j_iconst hx dX12_readOne_259 ?_
                have f129 := zf hS_s6 ha (k := 5) rfl
                have f130 := zf hS_s6 ha (k := 38) rfl
                have g131 : (s6 (gP G a 31)) = (s0 (gP G a 31)) := by rw [hF_s6 (gP G a 31) (by rw [(zr (k := 31) (t2 := 88) hG ha rfl)]; decide), hF_s2 (gP G a 31) (by rw [(zr (k := 31) (t2 := 88) hG ha rfl)]; decide), hF_s1 (gP G a 31) (by rw [(zr (k := 31) (t2 := 88) hG ha rfl)]; decide)]
                have g132 : zRp (s6 (gP G a 31)) 0 (s6 a 38).toNat = zRp (s0 (gP G a 31)) 0 (s0 a 38).toNat := by rw [g131, show s6 a 38 = s0 a 38 by omega]
                have f133 := zf hS_s6 ha (k := 0) rfl
                have f134 := zf hS_s6 ha (k := 3) rfl
                have f135 := zf hS_s6 ha (k := 4) rfl
                have f136 := zf hS_s6 ha (k := 7) rfl
                have f137 := zf hS_s6 ha (k := 21) rfl
                have f138 := zf hS_s6 ha (k := 22) rfl
                have f139 := zf hS_s6 ha (k := 23) rfl
                have f140 := zf hS_s6 ha (k := 24) rfl
                have f141 := zf hS_s6 ha (k := 51) rfl
                have f142 := zf hS_s6 ha (k := 52) rfl
                refine j_callV hx hG (c_X12_emit hst a 1 0 0) lk_RX12_277 ha (by decide) rfl rfl rfl rfl [.int (zI 1), .int (zI 0), .int (zI 0)] ⟨rfl, hG, hS_s6, ha, (by omega), (by omega), (by omega), (by omega), ((by have q1 : s6 (gP G a 31) = s0 (gP G a 31) := (by rw [hF_s6 (gP G a 31) (by rw [(zr (k := 31) (t2 := 88) hG ha rfl)]; decide), hF_s2 (gP G a 31) (by rw [(zr (k := 31) (t2 := 88) hG ha rfl)]; decide), hF_s1 (gP G a 31) (by rw [(zr (k := 31) (t2 := 88) hG ha rfl)]; decide)]); have q2 : s6 (gP G a 32) = s0 (gP G a 32) := (by rw [hF_s6 (gP G a 32) (by rw [(zr (k := 32) (t2 := 89) hG ha rfl)]; decide), hF_s2 (gP G a 32) (by rw [(zr (k := 32) (t2 := 89) hG ha rfl)]; decide), hF_s1 (gP G a 32) (by rw [(zr (k := 32) (t2 := 89) hG ha rfl)]; decide)]); rw [q1, q2]; exact (zNv_k e4 (by omega) (by omega)))), (by omega)⟩ rfl rfl ⟨by decide, by decide⟩ ⟨by decide, by decide⟩ (k2 := 0) (n2 := 0) rfl rfl (Nat.le_of_ble_eq_true rfl) dX12_readOne_260 (kVM (fun s10 hS_s10 hF_s10 q144 => ?_))
                refine j_goto hx 397 dX12_readOne_263 rfl ?_
                have f145 := zf hS_s10 ha (k := 4) rfl
                have f146 := zf hS_s10 ha (k := 5) rfl
                have f147 := zf hS_s10 ha (k := 7) rfl
                have f148 := zf hS_s10 ha (k := 38) rfl
                have f149 := zf hS_s10 ha (k := 0) rfl
                have f150 := zf hS_s10 ha (k := 3) rfl
                have f151 := zf hS_s10 ha (k := 21) rfl
                have f152 := zf hS_s10 ha (k := 22) rfl
                have f153 := zf hS_s10 ha (k := 23) rfl
                have f154 := zf hS_s10 ha (k := 24) rfl
                have f155 := zf hS_s10 ha (k := 51) rfl
                have f156 := zf hS_s10 ha (k := 52) rfl
                exact j_vret hx hq rfl (by decide) (by decide) dX12_readOne_397 ⟨rfl, rfl, hS_s10, (zFr_t (zFr_t (zFr_t (zFr_t zFr_rf hF_s1 (by decide)) hF_s2 (by decide)) hF_s6 (by decide)) hF_s10 (by decide)), ⟨by omega, by omega, by omega, by omega, by omega, (zNv_k q144.2.1 (by omega) (by omega)), by omega, by omega, by omega, by omega, by omega, by omega, by omega, by omega⟩⟩
            refine j_icmp_eq hx 228 dX12_readOne_205 rfl (by omega) (by omega) (fun h157 => ?_) (fun h157 => ?_)
            · skip
              exact j_sub [1, 2] [(0, .ref a), (1, .int (zI v41))] rfl (c228_7  )
            · skip
              clear h157
              refine j_iload_n hx 2 dX12_readOne_208 rfl ?_
              refine j_ldcwT hx (i := 10) 30 (by decide) rfl rfl rfl dX12_readOne_209 ?_
              refine j_callS hx (c_X12_of hst 10) lk_RX12_215 [.ref (zTa E 10)] ⟨rfl, hG, hS_s6, (by decide)⟩ rfl rfl ⟨by decide, by decide⟩ ⟨by decide, by decide⟩ (k2 := 0) (n2 := 0) rfl rfl (Nat.le_of_ble_eq_true rfl) dX12_readOne_212 (kIP (fun v158 q159 => ?_))
              refine j_icmp_eq hx 228 dX12_readOne_215 rfl (by omega) (by omega) (fun h160 => ?_) (fun h160 => ?_)
              · skip
                exact j_sub [1, 2] [(0, .ref a), (1, .int (zI v41))] rfl (c228_7  )
              · skip
                clear h160
                refine j_iload_n hx 2 dX12_readOne_218 rfl ?_
                refine j_ldcwT hx (i := 11) 33 (by decide) rfl rfl rfl dX12_readOne_219 ?_
                refine j_callS hx (c_X12_of hst 11) lk_RX12_215 [.ref (zTa E 11)] ⟨rfl, hG, hS_s6, (by decide)⟩ rfl rfl ⟨by decide, by decide⟩ ⟨by decide, by decide⟩ (k2 := 0) (n2 := 0) rfl rfl (Nat.le_of_ble_eq_true rfl) dX12_readOne_222 (kIP (fun v161 q162 => ?_))
                refine j_icmp_ne hx 266 dX12_readOne_225 rfl (by omega) (by omega) (fun h163 => ?_) (fun h163 => ?_)
                · skip
                  clear h163
                  refine j_iload_n hx 2 dX12_readOne_266 rfl ?_
                  refine j_ldcwT hx (i := 12) 31 (by decide) rfl rfl rfl dX12_readOne_267 ?_
                  refine j_callS hx (c_X12_of hst 12) lk_RX12_215 [.ref (zTa E 12)] ⟨rfl, hG, hS_s6, (by decide)⟩ rfl rfl ⟨by decide, by decide⟩ ⟨by decide, by decide⟩ (k2 := 0) (n2 := 0) rfl rfl (Nat.le_of_ble_eq_true rfl) dX12_readOne_270 (kIP (fun v164 q165 => ?_))
                  have c286_11 : JJ X E 4 G s6 0 0 [(0, .ref a), (1, .int (zI v41))] 286 [] := by
                    refine j_aload_n hx 0 dX12_readOne_286 rfl ?_
                    refine j_iload_n hx 1 dX12_readOne_287 rfl ?_
                    refine j_ldcwT hx (i := 12) 31 (by decide) rfl rfl rfl dX12_readOne_288 ?_
                    refine j_callS hx (c_X12_of hst 12) lk_RX12_215 [.ref (zTa E 12)] ⟨rfl, hG, hS_s6, (by decide)⟩ rfl rfl ⟨by decide, by decide⟩ ⟨by decide, by decide⟩ (k2 := 0) (n2 := 0) rfl rfl (Nat.le_of_ble_eq_true rfl) dX12_readOne_291 (kIP (fun v166 q167 => ?_))
                    refine j_icmp_ne hx 301 dX12_readOne_294 rfl (by omega) (by omega) (fun h168 => ?_) (fun h168 => ?_)
                    · skip
                      clear h168
                      refine j_iconst hx dX12_readOne_301 ?_
                      refine j_aload_n hx 0 dX12_readOne_302 rfl ?_
                      have f169 := zf hS_s6 ha (k := 4) rfl
                      have f170 := zf hS_s6 ha (k := 3) rfl
                      have f171 := zf hS_s6 ha (k := 5) rfl
                      have f172 := zf hS_s6 ha (k := 0) rfl
                      have f173 := zf hS_s6 ha (k := 7) rfl
                      have f174 := zf hS_s6 ha (k := 21) rfl
                      have f175 := zf hS_s6 ha (k := 22) rfl
                      have f176 := zf hS_s6 ha (k := 23) rfl
                      have f177 := zf hS_s6 ha (k := 24) rfl
                      have f178 := zf hS_s6 ha (k := 38) rfl
                      have f179 := zf hS_s6 ha (k := 51) rfl
                      have f180 := zf hS_s6 ha (k := 52) rfl
                      refine j_callV hx hG (c_X12_readKind hst a) lk_RX12_308 ha (by decide) rfl rfl rfl rfl [] ⟨rfl, hG, hS_s6, ha, (by omega)⟩ rfl rfl ⟨by decide, by decide⟩ ⟨by decide, by decide⟩ (k2 := 0) (n2 := 0) rfl rfl (Nat.le_of_ble_eq_true rfl) dX12_readOne_303 (kIM (fun v181 s12 hS_s12 hF_s12 q182 => ?_))
                      refine j_iconst hx dX12_readOne_306 ?_
                      have f183 := zf hS_s12 ha (k := 5) rfl
                      have f184 := zf hS_s12 ha (k := 38) rfl
                      have g185 : (s12 (gP G a 31)) = (s0 (gP G a 31)) := by rw [hF_s12 (gP G a 31) (by rw [(zr (k := 31) (t2 := 88) hG ha rfl)]; decide), hF_s6 (gP G a 31) (by rw [(zr (k := 31) (t2 := 88) hG ha rfl)]; decide), hF_s2 (gP G a 31) (by rw [(zr (k := 31) (t2 := 88) hG ha rfl)]; decide), hF_s1 (gP G a 31) (by rw [(zr (k := 31) (t2 := 88) hG ha rfl)]; decide)]
                      have g186 : zRp (s12 (gP G a 31)) 0 (s12 a 38).toNat = zRp (s0 (gP G a 31)) 0 (s0 a 38).toNat := by rw [g185, show s12 a 38 = s0 a 38 by omega]
                      have f187 := zf hS_s12 ha (k := 0) rfl
                      have f188 := zf hS_s12 ha (k := 3) rfl
                      have f189 := zf hS_s12 ha (k := 4) rfl
                      have f190 := zf hS_s12 ha (k := 7) rfl
                      have f191 := zf hS_s12 ha (k := 21) rfl
                      have f192 := zf hS_s12 ha (k := 22) rfl
                      have f193 := zf hS_s12 ha (k := 23) rfl
                      have f194 := zf hS_s12 ha (k := 24) rfl
                      have f195 := zf hS_s12 ha (k := 51) rfl
                      have f196 := zf hS_s12 ha (k := 52) rfl
                      refine j_callV hx hG (c_X12_emit hst a 4 v181 0) lk_RX12_277 ha (by decide) rfl rfl rfl rfl [.int (zI 4), .int (zI v181), .int (zI 0)] ⟨rfl, hG, hS_s12, ha, (by omega), (by omega), (by omega), (by omega), ((by have q1 : s12 (gP G a 31) = s0 (gP G a 31) := (by rw [hF_s12 (gP G a 31) (by rw [(zr (k := 31) (t2 := 88) hG ha rfl)]; decide), hF_s6 (gP G a 31) (by rw [(zr (k := 31) (t2 := 88) hG ha rfl)]; decide), hF_s2 (gP G a 31) (by rw [(zr (k := 31) (t2 := 88) hG ha rfl)]; decide), hF_s1 (gP G a 31) (by rw [(zr (k := 31) (t2 := 88) hG ha rfl)]; decide)]); have q2 : s12 (gP G a 32) = s0 (gP G a 32) := (by rw [hF_s12 (gP G a 32) (by rw [(zr (k := 32) (t2 := 89) hG ha rfl)]; decide), hF_s6 (gP G a 32) (by rw [(zr (k := 32) (t2 := 89) hG ha rfl)]; decide), hF_s2 (gP G a 32) (by rw [(zr (k := 32) (t2 := 89) hG ha rfl)]; decide), hF_s1 (gP G a 32) (by rw [(zr (k := 32) (t2 := 89) hG ha rfl)]; decide)]); rw [q1, q2]; exact (zNv_k e4 (by omega) (by omega)))), (by omega)⟩ rfl rfl ⟨by decide, by decide⟩ ⟨by decide, by decide⟩ (k2 := 0) (n2 := 0) rfl rfl (Nat.le_of_ble_eq_true rfl) dX12_readOne_307 (kVM (fun s13 hS_s13 hF_s13 q198 => ?_))
                      refine j_goto hx 397 dX12_readOne_310 rfl ?_
                      have f199 := zf hS_s13 ha (k := 4) rfl
                      have f200 := zf hS_s13 ha (k := 5) rfl
                      have f201 := zf hS_s13 ha (k := 7) rfl
                      have f202 := zf hS_s13 ha (k := 38) rfl
                      have f203 := zf hS_s13 ha (k := 0) rfl
                      have f204 := zf hS_s13 ha (k := 3) rfl
                      have f205 := zf hS_s13 ha (k := 21) rfl
                      have f206 := zf hS_s13 ha (k := 22) rfl
                      have f207 := zf hS_s13 ha (k := 23) rfl
                      have f208 := zf hS_s13 ha (k := 24) rfl
                      have f209 := zf hS_s13 ha (k := 51) rfl
                      have f210 := zf hS_s13 ha (k := 52) rfl
                      exact j_vret hx hq rfl (by decide) (by decide) dX12_readOne_397 ⟨rfl, rfl, hS_s13, (zFr_t (zFr_t (zFr_t (zFr_t (zFr_t zFr_rf hF_s1 (by decide)) hF_s2 (by decide)) hF_s6 (by decide)) hF_s12 (by decide)) hF_s13 (by decide)), ⟨by omega, by omega, by omega, by omega, by omega, (zNv_k q198.2.1 (by omega) (by omega)), by omega, by omega, by omega, by omega, by omega, by omega, by omega, by omega⟩⟩
                    · skip
                      refine j_iconst hx dX12_readOne_297 ?_
                      refine j_goto hx 302 dX12_readOne_298 rfl ?_
                      refine j_aload_n hx 0 dX12_readOne_302 rfl ?_
                      have f211 := zf hS_s6 ha (k := 4) rfl
                      have f212 := zf hS_s6 ha (k := 3) rfl
                      have f213 := zf hS_s6 ha (k := 5) rfl
                      have f214 := zf hS_s6 ha (k := 0) rfl
                      have f215 := zf hS_s6 ha (k := 7) rfl
                      have f216 := zf hS_s6 ha (k := 21) rfl
                      have f217 := zf hS_s6 ha (k := 22) rfl
                      have f218 := zf hS_s6 ha (k := 23) rfl
                      have f219 := zf hS_s6 ha (k := 24) rfl
                      have f220 := zf hS_s6 ha (k := 38) rfl
                      have f221 := zf hS_s6 ha (k := 51) rfl
                      have f222 := zf hS_s6 ha (k := 52) rfl
                      refine j_callV hx hG (c_X12_readKind hst a) lk_RX12_308 ha (by decide) rfl rfl rfl rfl [] ⟨rfl, hG, hS_s6, ha, (by omega)⟩ rfl rfl ⟨by decide, by decide⟩ ⟨by decide, by decide⟩ (k2 := 0) (n2 := 0) rfl rfl (Nat.le_of_ble_eq_true rfl) dX12_readOne_303 (kIM (fun v223 s14 hS_s14 hF_s14 q224 => ?_))
                      refine j_iconst hx dX12_readOne_306 ?_
                      have f225 := zf hS_s14 ha (k := 5) rfl
                      have f226 := zf hS_s14 ha (k := 38) rfl
                      have g227 : (s14 (gP G a 31)) = (s0 (gP G a 31)) := by rw [hF_s14 (gP G a 31) (by rw [(zr (k := 31) (t2 := 88) hG ha rfl)]; decide), hF_s6 (gP G a 31) (by rw [(zr (k := 31) (t2 := 88) hG ha rfl)]; decide), hF_s2 (gP G a 31) (by rw [(zr (k := 31) (t2 := 88) hG ha rfl)]; decide), hF_s1 (gP G a 31) (by rw [(zr (k := 31) (t2 := 88) hG ha rfl)]; decide)]
                      have g228 : zRp (s14 (gP G a 31)) 0 (s14 a 38).toNat = zRp (s0 (gP G a 31)) 0 (s0 a 38).toNat := by rw [g227, show s14 a 38 = s0 a 38 by omega]
                      have f229 := zf hS_s14 ha (k := 0) rfl
                      have f230 := zf hS_s14 ha (k := 3) rfl
                      have f231 := zf hS_s14 ha (k := 4) rfl
                      have f232 := zf hS_s14 ha (k := 7) rfl
                      have f233 := zf hS_s14 ha (k := 21) rfl
                      have f234 := zf hS_s14 ha (k := 22) rfl
                      have f235 := zf hS_s14 ha (k := 23) rfl
                      have f236 := zf hS_s14 ha (k := 24) rfl
                      have f237 := zf hS_s14 ha (k := 51) rfl
                      have f238 := zf hS_s14 ha (k := 52) rfl
                      refine j_callV hx hG (c_X12_emit hst a 3 v223 0) lk_RX12_277 ha (by decide) rfl rfl rfl rfl [.int (zI 3), .int (zI v223), .int (zI 0)] ⟨rfl, hG, hS_s14, ha, (by omega), (by omega), (by omega), (by omega), ((by have q1 : s14 (gP G a 31) = s0 (gP G a 31) := (by rw [hF_s14 (gP G a 31) (by rw [(zr (k := 31) (t2 := 88) hG ha rfl)]; decide), hF_s6 (gP G a 31) (by rw [(zr (k := 31) (t2 := 88) hG ha rfl)]; decide), hF_s2 (gP G a 31) (by rw [(zr (k := 31) (t2 := 88) hG ha rfl)]; decide), hF_s1 (gP G a 31) (by rw [(zr (k := 31) (t2 := 88) hG ha rfl)]; decide)]); have q2 : s14 (gP G a 32) = s0 (gP G a 32) := (by rw [hF_s14 (gP G a 32) (by rw [(zr (k := 32) (t2 := 89) hG ha rfl)]; decide), hF_s6 (gP G a 32) (by rw [(zr (k := 32) (t2 := 89) hG ha rfl)]; decide), hF_s2 (gP G a 32) (by rw [(zr (k := 32) (t2 := 89) hG ha rfl)]; decide), hF_s1 (gP G a 32) (by rw [(zr (k := 32) (t2 := 89) hG ha rfl)]; decide)]); rw [q1, q2]; exact (zNv_k e4 (by omega) (by omega)))), (by omega)⟩ rfl rfl ⟨by decide, by decide⟩ ⟨by decide, by decide⟩ (k2 := 0) (n2 := 0) rfl rfl (Nat.le_of_ble_eq_true rfl) dX12_readOne_307 (kVM (fun s15 hS_s15 hF_s15 q240 => ?_))
                      refine j_goto hx 397 dX12_readOne_310 rfl ?_
                      have f241 := zf hS_s15 ha (k := 4) rfl
                      have f242 := zf hS_s15 ha (k := 5) rfl
                      have f243 := zf hS_s15 ha (k := 7) rfl
                      have f244 := zf hS_s15 ha (k := 38) rfl
                      have f245 := zf hS_s15 ha (k := 0) rfl
                      have f246 := zf hS_s15 ha (k := 3) rfl
                      have f247 := zf hS_s15 ha (k := 21) rfl
                      have f248 := zf hS_s15 ha (k := 22) rfl
                      have f249 := zf hS_s15 ha (k := 23) rfl
                      have f250 := zf hS_s15 ha (k := 24) rfl
                      have f251 := zf hS_s15 ha (k := 51) rfl
                      have f252 := zf hS_s15 ha (k := 52) rfl
                      exact j_vret hx hq rfl (by decide) (by decide) dX12_readOne_397 ⟨rfl, rfl, hS_s15, (zFr_t (zFr_t (zFr_t (zFr_t (zFr_t zFr_rf hF_s1 (by decide)) hF_s2 (by decide)) hF_s6 (by decide)) hF_s14 (by decide)) hF_s15 (by decide)), ⟨by omega, by omega, by omega, by omega, by omega, (zNv_k q240.2.1 (by omega) (by omega)), by omega, by omega, by omega, by omega, by omega, by omega, by omega, by omega⟩⟩
                  refine j_icmp_eq hx 286 dX12_readOne_273 rfl (by omega) (by omega) (fun h253 => ?_) (fun h253 => ?_)
                  · skip
                    exact j_sub [1, 2] [(0, .ref a), (1, .int (zI v41))] rfl (c286_11  )
                  · skip
                    clear h253
                    refine j_iload_n hx 2 dX12_readOne_276 rfl ?_
                    refine j_ldcwT hx (i := 13) 32 (by decide) rfl rfl rfl dX12_readOne_277 ?_
                    refine j_callS hx (c_X12_of hst 13) lk_RX12_215 [.ref (zTa E 13)] ⟨rfl, hG, hS_s6, (by decide)⟩ rfl rfl ⟨by decide, by decide⟩ ⟨by decide, by decide⟩ (k2 := 0) (n2 := 0) rfl rfl (Nat.le_of_ble_eq_true rfl) dX12_readOne_280 (kIP (fun v254 q255 => ?_))
                    refine j_icmp_ne hx 313 dX12_readOne_283 rfl (by omega) (by omega) (fun h256 => ?_) (fun h256 => ?_)
                    · skip
                      clear h256
                      refine j_iload_n hx 2 dX12_readOne_313 rfl ?_
                      refine j_ldcwT hx (i := 15) 35 (by decide) rfl rfl rfl dX12_readOne_314 ?_
                      refine j_callS hx (c_X12_of hst 15) lk_RX12_215 [.ref (zTa E 15)] ⟨rfl, hG, hS_s6, (by decide)⟩ rfl rfl ⟨by decide, by decide⟩ ⟨by decide, by decide⟩ (k2 := 0) (n2 := 0) rfl rfl (Nat.le_of_ble_eq_true rfl) dX12_readOne_317 (kIP (fun v257 q258 => ?_))
                      refine j_icmp_ne hx 349 dX12_readOne_320 rfl (by omega) (by omega) (fun h259 => ?_) (fun h259 => ?_)
                      · skip
                        clear h259
                        refine j_iload_n hx 2 dX12_readOne_349 rfl ?_
                        refine j_ldcwT hx (i := 14) 34 (by decide) rfl rfl rfl dX12_readOne_350 ?_
                        refine j_callS hx (c_X12_of hst 14) lk_RX12_215 [.ref (zTa E 14)] ⟨rfl, hG, hS_s6, (by decide)⟩ rfl rfl ⟨by decide, by decide⟩ ⟨by decide, by decide⟩ (k2 := 0) (n2 := 0) rfl rfl (Nat.le_of_ble_eq_true rfl) dX12_readOne_353 (kIP (fun v260 q261 => ?_))
                        refine j_icmp_ne hx 370 dX12_readOne_356 rfl (by omega) (by omega) (fun h262 => ?_) (fun h262 => ?_)
                        · skip
                          clear h262
                          refine j_iload_n hx 2 dX12_readOne_370 rfl ?_
                          refine j_ldcT hx (i := 2) 21 (by decide) rfl rfl rfl dX12_readOne_371 ?_
                          refine j_callS hx (c_X12_of hst 2) lk_RX12_215 [.ref (zTa E 2)] ⟨rfl, hG, hS_s6, (by decide)⟩ rfl rfl ⟨by decide, by decide⟩ ⟨by decide, by decide⟩ (k2 := 0) (n2 := 0) rfl rfl (Nat.le_of_ble_eq_true rfl) dX12_readOne_373 (kIP (fun v263 q264 => ?_))
                          refine j_icmp_ne hx 390 dX12_readOne_376 rfl (by omega) (by omega) (fun h265 => ?_) (fun h265 => ?_)
                          · skip
                            clear h265
                            refine j_aload_n hx 1 dX12_readOne_390 rfl ?_
                            refine j_iconst hx dX12_readOne_391 ?_
                            refine j_bipush hx dX12_readOne_392 rfl ?_
                            have f266 := zf hS_s6 ha (k := 3) rfl
                            have f267 := zf hS_s6 ha (k := 4) rfl
                            have f268 := zf hS_s6 ha (k := 5) rfl
                            have f269 := zf hS_s6 ha (k := 38) rfl
                            have g270 : (s6 (gP G a 31)) = (s0 (gP G a 31)) := by rw [hF_s6 (gP G a 31) (by rw [(zr (k := 31) (t2 := 88) hG ha rfl)]; decide), hF_s2 (gP G a 31) (by rw [(zr (k := 31) (t2 := 88) hG ha rfl)]; decide), hF_s1 (gP G a 31) (by rw [(zr (k := 31) (t2 := 88) hG ha rfl)]; decide)]
                            have g271 : zRp (s6 (gP G a 31)) 0 (s6 a 38).toNat = zRp (s0 (gP G a 31)) 0 (s0 a 38).toNat := by rw [g270, show s6 a 38 = s0 a 38 by omega]
                            have f272 := zf hS_s6 ha (k := 0) rfl
                            have f273 := zf hS_s6 ha (k := 7) rfl
                            have f274 := zf hS_s6 ha (k := 21) rfl
                            have f275 := zf hS_s6 ha (k := 22) rfl
                            have f276 := zf hS_s6 ha (k := 23) rfl
                            have f277 := zf hS_s6 ha (k := 24) rfl
                            have f278 := zf hS_s6 ha (k := 51) rfl
                            have f279 := zf hS_s6 ha (k := 52) rfl
                            refine j_callV hx hG (c_X12_readHeld hst a (-1) 10) lk_RX12_311 ha (by decide) rfl rfl rfl rfl [.int (zI (-1)), .int (zI 10)] ⟨rfl, hG, hS_s6, ha, (by omega), (by omega), (by omega), (by omega), (by omega), ((by have q1 : s6 (gP G a 31) = s0 (gP G a 31) := (by rw [hF_s6 (gP G a 31) (by rw [(zr (k := 31) (t2 := 88) hG ha rfl)]; decide), hF_s2 (gP G a 31) (by rw [(zr (k := 31) (t2 := 88) hG ha rfl)]; decide), hF_s1 (gP G a 31) (by rw [(zr (k := 31) (t2 := 88) hG ha rfl)]; decide)]); have q2 : s6 (gP G a 32) = s0 (gP G a 32) := (by rw [hF_s6 (gP G a 32) (by rw [(zr (k := 32) (t2 := 89) hG ha rfl)]; decide), hF_s2 (gP G a 32) (by rw [(zr (k := 32) (t2 := 89) hG ha rfl)]; decide), hF_s1 (gP G a 32) (by rw [(zr (k := 32) (t2 := 89) hG ha rfl)]; decide)]); rw [q1, q2]; exact (zNv_k e4 (by omega) (by omega)))), (by omega)⟩ rfl rfl ⟨by decide, by decide⟩ ⟨by decide, by decide⟩ (k2 := 0) (n2 := 0) rfl rfl (Nat.le_of_ble_eq_true rfl) dX12_readOne_394 (kVM (fun s16 hS_s16 hF_s16 q281 => ?_))
                            have f282 := zf hS_s16 ha (k := 4) rfl
                            have f283 := zf hS_s16 ha (k := 5) rfl
                            have f284 := zf hS_s16 ha (k := 7) rfl
                            have f285 := zf hS_s16 ha (k := 38) rfl
                            have f286 := zf hS_s16 ha (k := 0) rfl
                            have f287 := zf hS_s16 ha (k := 3) rfl
                            have f288 := zf hS_s16 ha (k := 21) rfl
                            have f289 := zf hS_s16 ha (k := 22) rfl
                            have f290 := zf hS_s16 ha (k := 23) rfl
                            have f291 := zf hS_s16 ha (k := 24) rfl
                            have f292 := zf hS_s16 ha (k := 51) rfl
                            have f293 := zf hS_s16 ha (k := 52) rfl
                            exact j_vret hx hq rfl (by decide) (by decide) dX12_readOne_397 ⟨rfl, rfl, hS_s16, (zFr_t (zFr_t (zFr_t (zFr_t zFr_rf hF_s1 (by decide)) hF_s2 (by decide)) hF_s6 (by decide)) hF_s16 (by decide)), ⟨by omega, by omega, by omega, by omega, by omega, (zNv_k q281.2.2.2.2.1 (by omega) (by omega)), by omega, by omega, by omega, by omega, by omega, by omega, by omega, by omega⟩⟩
                          · skip
                            refine j_aload_n hx 1 dX12_readOne_379 rfl ?_
                            refine j_bipush hx dX12_readOne_380 rfl ?_
                            refine j_bipush hx dX12_readOne_382 rfl ?_
                            have f294 := zf hS_s6 ha (k := 3) rfl
                            have f295 := zf hS_s6 ha (k := 4) rfl
                            have f296 := zf hS_s6 ha (k := 5) rfl
                            have f297 := zf hS_s6 ha (k := 38) rfl
                            have g298 : (s6 (gP G a 31)) = (s0 (gP G a 31)) := by rw [hF_s6 (gP G a 31) (by rw [(zr (k := 31) (t2 := 88) hG ha rfl)]; decide), hF_s2 (gP G a 31) (by rw [(zr (k := 31) (t2 := 88) hG ha rfl)]; decide), hF_s1 (gP G a 31) (by rw [(zr (k := 31) (t2 := 88) hG ha rfl)]; decide)]
                            have g299 : zRp (s6 (gP G a 31)) 0 (s6 a 38).toNat = zRp (s0 (gP G a 31)) 0 (s0 a 38).toNat := by rw [g298, show s6 a 38 = s0 a 38 by omega]
                            have f300 := zf hS_s6 ha (k := 0) rfl
                            have f301 := zf hS_s6 ha (k := 7) rfl
                            have f302 := zf hS_s6 ha (k := 21) rfl
                            have f303 := zf hS_s6 ha (k := 22) rfl
                            have f304 := zf hS_s6 ha (k := 23) rfl
                            have f305 := zf hS_s6 ha (k := 24) rfl
                            have f306 := zf hS_s6 ha (k := 51) rfl
                            have f307 := zf hS_s6 ha (k := 52) rfl
                            refine j_callV hx hG (c_X12_readHeld hst a 8 9) lk_RX12_311 ha (by decide) rfl rfl rfl rfl [.int (zI 8), .int (zI 9)] ⟨rfl, hG, hS_s6, ha, (by omega), (by omega), (by omega), (by omega), (by omega), ((by have q1 : s6 (gP G a 31) = s0 (gP G a 31) := (by rw [hF_s6 (gP G a 31) (by rw [(zr (k := 31) (t2 := 88) hG ha rfl)]; decide), hF_s2 (gP G a 31) (by rw [(zr (k := 31) (t2 := 88) hG ha rfl)]; decide), hF_s1 (gP G a 31) (by rw [(zr (k := 31) (t2 := 88) hG ha rfl)]; decide)]); have q2 : s6 (gP G a 32) = s0 (gP G a 32) := (by rw [hF_s6 (gP G a 32) (by rw [(zr (k := 32) (t2 := 89) hG ha rfl)]; decide), hF_s2 (gP G a 32) (by rw [(zr (k := 32) (t2 := 89) hG ha rfl)]; decide), hF_s1 (gP G a 32) (by rw [(zr (k := 32) (t2 := 89) hG ha rfl)]; decide)]); rw [q1, q2]; exact (zNv_k e4 (by omega) (by omega)))), (by omega)⟩ rfl rfl ⟨by decide, by decide⟩ ⟨by decide, by decide⟩ (k2 := 0) (n2 := 0) rfl rfl (Nat.le_of_ble_eq_true rfl) dX12_readOne_384 (kVM (fun s17 hS_s17 hF_s17 q309 => ?_))
                            refine j_goto hx 397 dX12_readOne_387 rfl ?_
                            have f310 := zf hS_s17 ha (k := 4) rfl
                            have f311 := zf hS_s17 ha (k := 5) rfl
                            have f312 := zf hS_s17 ha (k := 7) rfl
                            have f313 := zf hS_s17 ha (k := 38) rfl
                            have f314 := zf hS_s17 ha (k := 0) rfl
                            have f315 := zf hS_s17 ha (k := 3) rfl
                            have f316 := zf hS_s17 ha (k := 21) rfl
                            have f317 := zf hS_s17 ha (k := 22) rfl
                            have f318 := zf hS_s17 ha (k := 23) rfl
                            have f319 := zf hS_s17 ha (k := 24) rfl
                            have f320 := zf hS_s17 ha (k := 51) rfl
                            have f321 := zf hS_s17 ha (k := 52) rfl
                            exact j_vret hx hq rfl (by decide) (by decide) dX12_readOne_397 ⟨rfl, rfl, hS_s17, (zFr_t (zFr_t (zFr_t (zFr_t zFr_rf hF_s1 (by decide)) hF_s2 (by decide)) hF_s6 (by decide)) hF_s17 (by decide)), ⟨by omega, by omega, by omega, by omega, by omega, (zNv_k q309.2.2.2.2.1 (by omega) (by omega)), by omega, by omega, by omega, by omega, by omega, by omega, by omega, by omega⟩⟩
                        · skip
                          refine j_aload_n hx 1 dX12_readOne_359 rfl ?_
                          refine j_bipush hx dX12_readOne_360 rfl ?_
                          refine j_bipush hx dX12_readOne_362 rfl ?_
                          have f322 := zf hS_s6 ha (k := 3) rfl
                          have f323 := zf hS_s6 ha (k := 4) rfl
                          have f324 := zf hS_s6 ha (k := 5) rfl
                          have f325 := zf hS_s6 ha (k := 38) rfl
                          have g326 : (s6 (gP G a 31)) = (s0 (gP G a 31)) := by rw [hF_s6 (gP G a 31) (by rw [(zr (k := 31) (t2 := 88) hG ha rfl)]; decide), hF_s2 (gP G a 31) (by rw [(zr (k := 31) (t2 := 88) hG ha rfl)]; decide), hF_s1 (gP G a 31) (by rw [(zr (k := 31) (t2 := 88) hG ha rfl)]; decide)]
                          have g327 : zRp (s6 (gP G a 31)) 0 (s6 a 38).toNat = zRp (s0 (gP G a 31)) 0 (s0 a 38).toNat := by rw [g326, show s6 a 38 = s0 a 38 by omega]
                          have f328 := zf hS_s6 ha (k := 0) rfl
                          have f329 := zf hS_s6 ha (k := 7) rfl
                          have f330 := zf hS_s6 ha (k := 21) rfl
                          have f331 := zf hS_s6 ha (k := 22) rfl
                          have f332 := zf hS_s6 ha (k := 23) rfl
                          have f333 := zf hS_s6 ha (k := 24) rfl
                          have f334 := zf hS_s6 ha (k := 51) rfl
                          have f335 := zf hS_s6 ha (k := 52) rfl
                          refine j_callV hx hG (c_X12_readHeld hst a 6 7) lk_RX12_311 ha (by decide) rfl rfl rfl rfl [.int (zI 6), .int (zI 7)] ⟨rfl, hG, hS_s6, ha, (by omega), (by omega), (by omega), (by omega), (by omega), ((by have q1 : s6 (gP G a 31) = s0 (gP G a 31) := (by rw [hF_s6 (gP G a 31) (by rw [(zr (k := 31) (t2 := 88) hG ha rfl)]; decide), hF_s2 (gP G a 31) (by rw [(zr (k := 31) (t2 := 88) hG ha rfl)]; decide), hF_s1 (gP G a 31) (by rw [(zr (k := 31) (t2 := 88) hG ha rfl)]; decide)]); have q2 : s6 (gP G a 32) = s0 (gP G a 32) := (by rw [hF_s6 (gP G a 32) (by rw [(zr (k := 32) (t2 := 89) hG ha rfl)]; decide), hF_s2 (gP G a 32) (by rw [(zr (k := 32) (t2 := 89) hG ha rfl)]; decide), hF_s1 (gP G a 32) (by rw [(zr (k := 32) (t2 := 89) hG ha rfl)]; decide)]); rw [q1, q2]; exact (zNv_k e4 (by omega) (by omega)))), (by omega)⟩ rfl rfl ⟨by decide, by decide⟩ ⟨by decide, by decide⟩ (k2 := 0) (n2 := 0) rfl rfl (Nat.le_of_ble_eq_true rfl) dX12_readOne_364 (kVM (fun s18 hS_s18 hF_s18 q337 => ?_))
                          refine j_goto hx 397 dX12_readOne_367 rfl ?_
                          have f338 := zf hS_s18 ha (k := 4) rfl
                          have f339 := zf hS_s18 ha (k := 5) rfl
                          have f340 := zf hS_s18 ha (k := 7) rfl
                          have f341 := zf hS_s18 ha (k := 38) rfl
                          have f342 := zf hS_s18 ha (k := 0) rfl
                          have f343 := zf hS_s18 ha (k := 3) rfl
                          have f344 := zf hS_s18 ha (k := 21) rfl
                          have f345 := zf hS_s18 ha (k := 22) rfl
                          have f346 := zf hS_s18 ha (k := 23) rfl
                          have f347 := zf hS_s18 ha (k := 24) rfl
                          have f348 := zf hS_s18 ha (k := 51) rfl
                          have f349 := zf hS_s18 ha (k := 52) rfl
                          exact j_vret hx hq rfl (by decide) (by decide) dX12_readOne_397 ⟨rfl, rfl, hS_s18, (zFr_t (zFr_t (zFr_t (zFr_t zFr_rf hF_s1 (by decide)) hF_s2 (by decide)) hF_s6 (by decide)) hF_s18 (by decide)), ⟨by omega, by omega, by omega, by omega, by omega, (zNv_k q337.2.2.2.2.1 (by omega) (by omega)), by omega, by omega, by omega, by omega, by omega, by omega, by omega, by omega⟩⟩
                      · skip
                        refine j_aload_n hx 1 dX12_readOne_323 rfl ?_
                        refine j_iconst hx dX12_readOne_324 ?_
                        refine j_bipush hx dX12_readOne_325 rfl ?_
                        have f350 := zf hS_s6 ha (k := 4) rfl
                        have f351 := zf hS_s6 ha (k := 3) rfl
                        have f352 := zf hS_s6 ha (k := 5) rfl
                        have f353 := zf hS_s6 ha (k := 0) rfl
                        have f354 := zf hS_s6 ha (k := 7) rfl
                        have f355 := zf hS_s6 ha (k := 21) rfl
                        have f356 := zf hS_s6 ha (k := 22) rfl
                        have f357 := zf hS_s6 ha (k := 23) rfl
                        have f358 := zf hS_s6 ha (k := 24) rfl
                        have f359 := zf hS_s6 ha (k := 38) rfl
                        have f360 := zf hS_s6 ha (k := 51) rfl
                        have f361 := zf hS_s6 ha (k := 52) rfl
                        refine j_callV hx hG (c_X12_readNumber_h hst a 1 60) lk_RX12_219 ha (by decide) rfl rfl rfl rfl [.int (zI 1), .int (zI 60)] ⟨rfl, hG, hS_s6, ha, (by omega), (by omega), (by omega)⟩ rfl rfl ⟨by decide, by decide⟩ ⟨by decide, by decide⟩ (k2 := 0) (n2 := 0) rfl rfl (Nat.le_of_ble_eq_true rfl) dX12_readOne_327 (kIM (fun v362 s19 hS_s19 hF_s19 q363 => ?_))
                        refine j_istore_n hx [(3, .int (zI v362)), (2, .int (zI v48)), (0, .ref a), (1, .int (zI v41))] dX12_readOne_330 (by decide) rfl ?_
                        refine j_aload_n hx 2 dX12_readOne_331 rfl ?_
                        refine j_bipush hx dX12_readOne_332 rfl ?_
                        refine j_iload_n hx 0 dX12_readOne_334 rfl ?_
                        refine j_aload_n hx 2 dX12_readOne_335 rfl ?_
                        refine j_iconst hx dX12_readOne_336 ?_
                        refine j_iload_n hx 0 dX12_readOne_337 rfl ?_
                        refine j_iconst hx dX12_readOne_338 ?_
                        refine j_isub hx (r := v362 - 1) dX12_readOne_339 rfl ?_
                        have f364 := zf hS_s19 ha (k := 4) rfl
                        have f365 := zf hS_s19 ha (k := 3) rfl
                        have f366 := zf hS_s19 ha (k := 5) rfl
                        have f367 := zf hS_s19 ha (k := 0) rfl
                        have f368 := zf hS_s19 ha (k := 7) rfl
                        have f369 := zf hS_s19 ha (k := 21) rfl
                        have f370 := zf hS_s19 ha (k := 22) rfl
                        have f371 := zf hS_s19 ha (k := 23) rfl
                        have f372 := zf hS_s19 ha (k := 24) rfl
                        have f373 := zf hS_s19 ha (k := 38) rfl
                        have f374 := zf hS_s19 ha (k := 51) rfl
                        have f375 := zf hS_s19 ha (k := 52) rfl
                        refine j_callV hx hG (c_X12_readNumber_q hst a 0 (v362 - 1)) lk_RX12_219 ha (by decide) rfl rfl rfl rfl [.int (zI 0), .int (zI (v362 - 1))] ⟨rfl, hG, hS_s19, ha, (by omega), (by omega), (by omega)⟩ rfl rfl ⟨by decide, by decide⟩ ⟨by decide, by decide⟩ (k2 := 0) (n2 := 0) rfl rfl (Nat.le_of_ble_eq_true rfl) dX12_readOne_340 (kIM (fun v376 s20 hS_s20 hF_s20 q377 => ?_))
                        have f378 := zf hS_s20 ha (k := 5) rfl
                        have f379 := zf hS_s20 ha (k := 38) rfl
                        have g380 : (s20 (gP G a 31)) = (s0 (gP G a 31)) := by rw [hF_s20 (gP G a 31) (by rw [(zr (k := 31) (t2 := 88) hG ha rfl)]; decide), hF_s19 (gP G a 31) (by rw [(zr (k := 31) (t2 := 88) hG ha rfl)]; decide), hF_s6 (gP G a 31) (by rw [(zr (k := 31) (t2 := 88) hG ha rfl)]; decide), hF_s2 (gP G a 31) (by rw [(zr (k := 31) (t2 := 88) hG ha rfl)]; decide), hF_s1 (gP G a 31) (by rw [(zr (k := 31) (t2 := 88) hG ha rfl)]; decide)]
                        have g381 : zRp (s20 (gP G a 31)) 0 (s20 a 38).toNat = zRp (s0 (gP G a 31)) 0 (s0 a 38).toNat := by rw [g380, show s20 a 38 = s0 a 38 by omega]
                        have f382 := zf hS_s20 ha (k := 0) rfl
                        have f383 := zf hS_s20 ha (k := 3) rfl
                        have f384 := zf hS_s20 ha (k := 4) rfl
                        have f385 := zf hS_s20 ha (k := 7) rfl
                        have f386 := zf hS_s20 ha (k := 21) rfl
                        have f387 := zf hS_s20 ha (k := 22) rfl
                        have f388 := zf hS_s20 ha (k := 23) rfl
                        have f389 := zf hS_s20 ha (k := 24) rfl
                        have f390 := zf hS_s20 ha (k := 51) rfl
                        have f391 := zf hS_s20 ha (k := 52) rfl
                        refine j_callV hx hG (c_X12_emit hst a 11 v362 v376) lk_RX12_277 ha (by decide) rfl rfl rfl rfl [.int (zI 11), .int (zI v362), .int (zI v376)] ⟨rfl, hG, hS_s20, ha, (by omega), (by omega), (by omega), (by omega), ((by have q1 : s20 (gP G a 31) = s0 (gP G a 31) := (by rw [hF_s20 (gP G a 31) (by rw [(zr (k := 31) (t2 := 88) hG ha rfl)]; decide), hF_s19 (gP G a 31) (by rw [(zr (k := 31) (t2 := 88) hG ha rfl)]; decide), hF_s6 (gP G a 31) (by rw [(zr (k := 31) (t2 := 88) hG ha rfl)]; decide), hF_s2 (gP G a 31) (by rw [(zr (k := 31) (t2 := 88) hG ha rfl)]; decide), hF_s1 (gP G a 31) (by rw [(zr (k := 31) (t2 := 88) hG ha rfl)]; decide)]); have q2 : s20 (gP G a 32) = s0 (gP G a 32) := (by rw [hF_s20 (gP G a 32) (by rw [(zr (k := 32) (t2 := 89) hG ha rfl)]; decide), hF_s19 (gP G a 32) (by rw [(zr (k := 32) (t2 := 89) hG ha rfl)]; decide), hF_s6 (gP G a 32) (by rw [(zr (k := 32) (t2 := 89) hG ha rfl)]; decide), hF_s2 (gP G a 32) (by rw [(zr (k := 32) (t2 := 89) hG ha rfl)]; decide), hF_s1 (gP G a 32) (by rw [(zr (k := 32) (t2 := 89) hG ha rfl)]; decide)]); rw [q1, q2]; exact (zNv_k e4 (by omega) (by omega)))), (by omega)⟩ rfl rfl ⟨by decide, by decide⟩ ⟨by decide, by decide⟩ (k2 := 0) (n2 := 0) rfl rfl (Nat.le_of_ble_eq_true rfl) dX12_readOne_343 (kVM (fun s21 hS_s21 hF_s21 q393 => ?_))
                        refine j_goto hx 397 dX12_readOne_346 rfl ?_
                        have f394 := zf hS_s21 ha (k := 4) rfl
                        have f395 := zf hS_s21 ha (k := 5) rfl
                        have f396 := zf hS_s21 ha (k := 7) rfl
                        have f397 := zf hS_s21 ha (k := 38) rfl
                        have f398 := zf hS_s21 ha (k := 0) rfl
                        have f399 := zf hS_s21 ha (k := 3) rfl
                        have f400 := zf hS_s21 ha (k := 21) rfl
                        have f401 := zf hS_s21 ha (k := 22) rfl
                        have f402 := zf hS_s21 ha (k := 23) rfl
                        have f403 := zf hS_s21 ha (k := 24) rfl
                        have f404 := zf hS_s21 ha (k := 51) rfl
                        have f405 := zf hS_s21 ha (k := 52) rfl
                        exact j_vret hx hq rfl (by decide) (by decide) dX12_readOne_397 ⟨rfl, rfl, hS_s21, (zFr_t (zFr_t (zFr_t (zFr_t (zFr_t (zFr_t zFr_rf hF_s1 (by decide)) hF_s2 (by decide)) hF_s6 (by decide)) hF_s19 (by decide)) hF_s20 (by decide)) hF_s21 (by decide)), ⟨by omega, by omega, by omega, by omega, by omega, (zNv_k q393.2.1 (by omega) (by omega)), by omega, by omega, by omega, by omega, by omega, by omega, by omega, by omega⟩⟩
                    · skip
                      exact j_sub [1, 2] [(0, .ref a), (1, .int (zI v41))] rfl (c286_11  )
                · skip
                  exact j_sub [1, 2] [(0, .ref a), (1, .int (zI v41))] rfl (c228_7  )
          · skip
            refine j_aload_n hx 1 dX12_readOne_184 rfl ?_
            refine j_iconst hx dX12_readOne_185 ?_
            refine j_aload_n hx 1 dX12_readOne_186 rfl ?_
            have f406 := zf hS_s2 ha (k := 4) rfl
            refine g13_4 hx hG ha kf_RX12_143 rfl dX12_readOne_187 ?_
            have f407 := zf hS_s2 ha (k := 5) rfl
            have f408 := zf hS_s2 ha (k := 0) rfl
            have f409 := zf hS_s2 ha (k := 3) rfl
            have f410 := zf hS_s2 ha (k := 7) rfl
            have f411 := zf hS_s2 ha (k := 21) rfl
            have f412 := zf hS_s2 ha (k := 22) rfl
            have f413 := zf hS_s2 ha (k := 23) rfl
            have f414 := zf hS_s2 ha (k := 24) rfl
            have f415 := zf hS_s2 ha (k := 38) rfl
            have f416 := zf hS_s2 ha (k := 51) rfl
            have f417 := zf hS_s2 ha (k := 52) rfl
            refine j_callV hx hG (c_X12_wrong hst a 1 ((s2 a 4))) lk_RX12_173 ha (by decide) rfl rfl rfl rfl [.int (zI 1), .int (zI ((s2 a 4)))] ⟨rfl, hG, hS_s2, ha, (by omega), (by omega)⟩ rfl rfl ⟨by decide, by decide⟩ ⟨by decide, by decide⟩ (k2 := 0) (n2 := 0) rfl rfl (Nat.le_of_ble_eq_true rfl) dX12_readOne_190 (kVM (fun s22 hS_s22 hF_s22 q419 => ?_))
            have f420 := zf hS_s22 ha (k := 4) rfl
            have f421 := zf hS_s22 ha (k := 5) rfl
            have f422 := zf hS_s22 ha (k := 7) rfl
            have f423 := zf hS_s22 ha (k := 38) rfl
            have g424 : (s22 (gP G a 31)) = (s0 (gP G a 31)) := by rw [hF_s22 (gP G a 31) (by rw [(zr (k := 31) (t2 := 88) hG ha rfl)]; decide), hF_s2 (gP G a 31) (by rw [(zr (k := 31) (t2 := 88) hG ha rfl)]; decide), hF_s1 (gP G a 31) (by rw [(zr (k := 31) (t2 := 88) hG ha rfl)]; decide)]
            have g425 : zRp (s22 (gP G a 31)) 0 (s22 a 38).toNat = zRp (s0 (gP G a 31)) 0 (s0 a 38).toNat := by rw [g424, show s22 a 38 = s0 a 38 by omega]
            have f426 := zf hS_s22 ha (k := 0) rfl
            have f427 := zf hS_s22 ha (k := 3) rfl
            have f428 := zf hS_s22 ha (k := 21) rfl
            have f429 := zf hS_s22 ha (k := 22) rfl
            have f430 := zf hS_s22 ha (k := 23) rfl
            have f431 := zf hS_s22 ha (k := 24) rfl
            have f432 := zf hS_s22 ha (k := 51) rfl
            have f433 := zf hS_s22 ha (k := 52) rfl
            exact j_vret hx hq rfl (by decide) (by decide) dX12_readOne_193 ⟨rfl, rfl, hS_s22, (zFr_t (zFr_t (zFr_t zFr_rf hF_s1 (by decide)) hF_s2 (by decide)) hF_s22 (by decide)), ⟨by omega, by omega, by omega, by omega, by omega, (by have q1 : s22 (gP G a 31) = s0 (gP G a 31) := (by rw [hF_s22 (gP G a 31) (by rw [(zr (k := 31) (t2 := 88) hG ha rfl)]; decide), hF_s2 (gP G a 31) (by rw [(zr (k := 31) (t2 := 88) hG ha rfl)]; decide), hF_s1 (gP G a 31) (by rw [(zr (k := 31) (t2 := 88) hG ha rfl)]; decide)]); have q2 : s22 (gP G a 32) = s0 (gP G a 32) := (by rw [hF_s22 (gP G a 32) (by rw [(zr (k := 32) (t2 := 89) hG ha rfl)]; decide), hF_s2 (gP G a 32) (by rw [(zr (k := 32) (t2 := 89) hG ha rfl)]; decide), hF_s1 (gP G a 32) (by rw [(zr (k := 32) (t2 := 89) hG ha rfl)]; decide)]); rw [q1, q2]; exact (zNv_k e4 (by omega) (by omega))), by omega, by omega, by omega, by omega, by omega, by omega, by omega, by omega⟩⟩
        have c174_23 : (v41 ≠ 0) → JJ X E 4 G s2 0 0 [(0, .ref a), (1, .int (zI v41))] 174 [] := by
          intro  fA24
          refine j_iconst hx dX12_readOne_174 ?_
          refine j_goto hx 179 dX12_readOne_175 rfl ?_
          exact j_sub [0, 1] [(0, .ref a), (1, .int (zI v41))] rfl (c179_3 1 (by omega) (by omega))
        refine j_icmp_eq hx 174 dX12_readOne_93 rfl (by omega) (by omega) (fun h434 => ?_) (fun h434 => ?_)
        · skip
          exact j_sub [1, 0] [(0, .ref a), (1, .int (zI v41))] rfl (c174_23  (by omega))
        · skip
          clear h434
          refine j_iload_n hx 0 dX12_readOne_96 rfl ?_
          refine j_ldcwT hx (i := 10) 30 (by decide) rfl rfl rfl dX12_readOne_97 ?_
          refine j_callS hx (c_X12_of hst 10) lk_RX12_215 [.ref (zTa E 10)] ⟨rfl, hG, hS_s2, (by decide)⟩ rfl rfl ⟨by decide, by decide⟩ ⟨by decide, by decide⟩ (k2 := 0) (n2 := 0) rfl rfl (Nat.le_of_ble_eq_true rfl) dX12_readOne_100 (kIP (fun v435 q436 => ?_))
          refine j_icmp_eq hx 174 dX12_readOne_103 rfl (by omega) (by omega) (fun h437 => ?_) (fun h437 => ?_)
          · skip
            exact j_sub [1, 0] [(0, .ref a), (1, .int (zI v41))] rfl (c174_23  (by omega))
          · skip
            clear h437
            refine j_iload_n hx 0 dX12_readOne_106 rfl ?_
            refine j_ldcwT hx (i := 12) 31 (by decide) rfl rfl rfl dX12_readOne_107 ?_
            refine j_callS hx (c_X12_of hst 12) lk_RX12_215 [.ref (zTa E 12)] ⟨rfl, hG, hS_s2, (by decide)⟩ rfl rfl ⟨by decide, by decide⟩ ⟨by decide, by decide⟩ (k2 := 0) (n2 := 0) rfl rfl (Nat.le_of_ble_eq_true rfl) dX12_readOne_110 (kIP (fun v438 q439 => ?_))
            refine j_icmp_eq hx 174 dX12_readOne_113 rfl (by omega) (by omega) (fun h440 => ?_) (fun h440 => ?_)
            · skip
              exact j_sub [1, 0] [(0, .ref a), (1, .int (zI v41))] rfl (c174_23  (by omega))
            · skip
              clear h440
              refine j_iload_n hx 0 dX12_readOne_116 rfl ?_
              refine j_ldcwT hx (i := 13) 32 (by decide) rfl rfl rfl dX12_readOne_117 ?_
              refine j_callS hx (c_X12_of hst 13) lk_RX12_215 [.ref (zTa E 13)] ⟨rfl, hG, hS_s2, (by decide)⟩ rfl rfl ⟨by decide, by decide⟩ ⟨by decide, by decide⟩ (k2 := 0) (n2 := 0) rfl rfl (Nat.le_of_ble_eq_true rfl) dX12_readOne_120 (kIP (fun v441 q442 => ?_))
              refine j_icmp_eq hx 174 dX12_readOne_123 rfl (by omega) (by omega) (fun h443 => ?_) (fun h443 => ?_)
              · skip
                exact j_sub [1, 0] [(0, .ref a), (1, .int (zI v41))] rfl (c174_23  (by omega))
              · skip
                clear h443
                refine j_iload_n hx 0 dX12_readOne_126 rfl ?_
                refine j_ldcwT hx (i := 11) 33 (by decide) rfl rfl rfl dX12_readOne_127 ?_
                refine j_callS hx (c_X12_of hst 11) lk_RX12_215 [.ref (zTa E 11)] ⟨rfl, hG, hS_s2, (by decide)⟩ rfl rfl ⟨by decide, by decide⟩ ⟨by decide, by decide⟩ (k2 := 0) (n2 := 0) rfl rfl (Nat.le_of_ble_eq_true rfl) dX12_readOne_130 (kIP (fun v444 q445 => ?_))
                refine j_icmp_eq hx 174 dX12_readOne_133 rfl (by omega) (by omega) (fun h446 => ?_) (fun h446 => ?_)
                · skip
                  exact j_sub [1, 0] [(0, .ref a), (1, .int (zI v41))] rfl (c174_23  (by omega))
                · skip
                  clear h446
                  refine j_iload_n hx 0 dX12_readOne_136 rfl ?_
                  refine j_ldcwT hx (i := 14) 34 (by decide) rfl rfl rfl dX12_readOne_137 ?_
                  refine j_callS hx (c_X12_of hst 14) lk_RX12_215 [.ref (zTa E 14)] ⟨rfl, hG, hS_s2, (by decide)⟩ rfl rfl ⟨by decide, by decide⟩ ⟨by decide, by decide⟩ (k2 := 0) (n2 := 0) rfl rfl (Nat.le_of_ble_eq_true rfl) dX12_readOne_140 (kIP (fun v447 q448 => ?_))
                  refine j_icmp_eq hx 174 dX12_readOne_143 rfl (by omega) (by omega) (fun h449 => ?_) (fun h449 => ?_)
                  · skip
                    exact j_sub [1, 0] [(0, .ref a), (1, .int (zI v41))] rfl (c174_23  (by omega))
                  · skip
                    clear h449
                    refine j_iload_n hx 0 dX12_readOne_146 rfl ?_
                    refine j_ldcT hx (i := 2) 21 (by decide) rfl rfl rfl dX12_readOne_147 ?_
                    refine j_callS hx (c_X12_of hst 2) lk_RX12_215 [.ref (zTa E 2)] ⟨rfl, hG, hS_s2, (by decide)⟩ rfl rfl ⟨by decide, by decide⟩ ⟨by decide, by decide⟩ (k2 := 0) (n2 := 0) rfl rfl (Nat.le_of_ble_eq_true rfl) dX12_readOne_149 (kIP (fun v450 q451 => ?_))
                    refine j_icmp_eq hx 174 dX12_readOne_152 rfl (by omega) (by omega) (fun h452 => ?_) (fun h452 => ?_)
                    · skip
                      exact j_sub [1, 0] [(0, .ref a), (1, .int (zI v41))] rfl (c174_23  (by omega))
                    · skip
                      clear h452
                      refine j_iload_n hx 0 dX12_readOne_155 rfl ?_
                      refine j_ldcT hx (i := 7) 25 (by decide) rfl rfl rfl dX12_readOne_156 ?_
                      refine j_callS hx (c_X12_of hst 7) lk_RX12_215 [.ref (zTa E 7)] ⟨rfl, hG, hS_s2, (by decide)⟩ rfl rfl ⟨by decide, by decide⟩ ⟨by decide, by decide⟩ (k2 := 0) (n2 := 0) rfl rfl (Nat.le_of_ble_eq_true rfl) dX12_readOne_158 (kIP (fun v453 q454 => ?_))
                      refine j_icmp_eq hx 174 dX12_readOne_161 rfl (by omega) (by omega) (fun h455 => ?_) (fun h455 => ?_)
                      · skip
                        exact j_sub [1, 0] [(0, .ref a), (1, .int (zI v41))] rfl (c174_23  (by omega))
                      · skip
                        clear h455
                        refine j_iload_n hx 0 dX12_readOne_164 rfl ?_
                        refine j_ldcwT hx (i := 15) 35 (by decide) rfl rfl rfl dX12_readOne_165 ?_
                        refine j_callS hx (c_X12_of hst 15) lk_RX12_215 [.ref (zTa E 15)] ⟨rfl, hG, hS_s2, (by decide)⟩ rfl rfl ⟨by decide, by decide⟩ ⟨by decide, by decide⟩ (k2 := 0) (n2 := 0) rfl rfl (Nat.le_of_ble_eq_true rfl) dX12_readOne_168 (kIP (fun v456 q457 => ?_))
                        refine j_icmp_ne hx 178 dX12_readOne_171 rfl (by omega) (by omega) (fun h458 => ?_) (fun h458 => ?_)
                        · skip
                          clear h458
                          refine j_iconst hx dX12_readOne_178 ?_
                          exact j_sub [1, 0] [(0, .ref a), (1, .int (zI v41))] rfl (c179_3 0 (by omega) (by omega))
                        · skip
                          exact j_sub [1, 0] [(0, .ref a), (1, .int (zI v41))] rfl (c174_23  (by omega))
      · skip
        refine j_aload_n hx 1 dX12_readOne_58 rfl ?_
        refine j_iconst hx dX12_readOne_59 ?_
        have f459 := zf hS_s2 ha (k := 4) rfl
        have f460 := zf hS_s2 ha (k := 7) rfl
        have f461 := zf hS_s2 ha (k := 5) rfl
        have f462 := zf hS_s2 ha (k := 0) rfl
        have f463 := zf hS_s2 ha (k := 3) rfl
        have f464 := zf hS_s2 ha (k := 21) rfl
        have f465 := zf hS_s2 ha (k := 22) rfl
        have f466 := zf hS_s2 ha (k := 23) rfl
        have f467 := zf hS_s2 ha (k := 24) rfl
        have f468 := zf hS_s2 ha (k := 38) rfl
        have f469 := zf hS_s2 ha (k := 51) rfl
        have f470 := zf hS_s2 ha (k := 52) rfl
        refine j_callV hx hG (c_X12_opensOne hst a 3) lk_RX12_286 ha (by decide) rfl rfl rfl rfl [.int (zI 3)] ⟨rfl, hG, hS_s2, ha, (by omega), (by omega), (by omega)⟩ rfl rfl ⟨by decide, by decide⟩ ⟨by decide, by decide⟩ (k2 := 0) (n2 := 0) rfl rfl (Nat.le_of_ble_eq_true rfl) dX12_readOne_60 (kVM (fun s25 hS_s25 hF_s25 q472 => ?_))
        refine j_aload_n hx 1 dX12_readOne_63 rfl ?_
        have f473 := zf hS_s25 ha (k := 7) rfl
        have f474 := zf hS_s25 ha (k := 3) rfl
        have f475 := zf hS_s25 ha (k := 4) rfl
        have f476 := zf hS_s25 ha (k := 5) rfl
        have f477 := zf hS_s25 ha (k := 38) rfl
        have g478 : (s25 (gP G a 31)) = (s0 (gP G a 31)) := by rw [hF_s25 (gP G a 31) (by rw [(zr (k := 31) (t2 := 88) hG ha rfl)]; decide), hF_s2 (gP G a 31) (by rw [(zr (k := 31) (t2 := 88) hG ha rfl)]; decide), hF_s1 (gP G a 31) (by rw [(zr (k := 31) (t2 := 88) hG ha rfl)]; decide)]
        have g479 : zRp (s25 (gP G a 31)) 0 (s25 a 38).toNat = zRp (s0 (gP G a 31)) 0 (s0 a 38).toNat := by rw [g478, show s25 a 38 = s0 a 38 by omega]
        refine j_callV hx hG (c_X12_readOne_7 hst a) lk_RX12_281 ha (by decide) rfl rfl rfl rfl [] ⟨rfl, hG, hS_s25, ha, (by omega), (by omega), (by omega), (by omega), ((by have q1 : s25 (gP G a 31) = s0 (gP G a 31) := (by rw [hF_s25 (gP G a 31) (by rw [(zr (k := 31) (t2 := 88) hG ha rfl)]; decide), hF_s2 (gP G a 31) (by rw [(zr (k := 31) (t2 := 88) hG ha rfl)]; decide), hF_s1 (gP G a 31) (by rw [(zr (k := 31) (t2 := 88) hG ha rfl)]; decide)]); have q2 : s25 (gP G a 32) = s0 (gP G a 32) := (by rw [hF_s25 (gP G a 32) (by rw [(zr (k := 32) (t2 := 89) hG ha rfl)]; decide), hF_s2 (gP G a 32) (by rw [(zr (k := 32) (t2 := 89) hG ha rfl)]; decide), hF_s1 (gP G a 32) (by rw [(zr (k := 32) (t2 := 89) hG ha rfl)]; decide)]); rw [q1, q2]; exact (zNv_k e4 (by omega) (by omega)))), (by omega)⟩ rfl rfl ⟨by decide, by decide⟩ ⟨by decide, by decide⟩ (k2 := 0) (n2 := 0) rfl rfl (Nat.le_of_ble_eq_true rfl) dX12_readOne_64 (kVM (fun s26 hS_s26 hF_s26 q481 => ?_))
        refine j_aload_n hx 1 dX12_readOne_67 rfl ?_
        refine j_dup hx dX12_readOne_68 rfl ?_
        refine g13_7 hx hG ha kf_RX12_177 (v := (s25 a 7)) (by rw [(zFr_g hF_s26 ha (by decide))]) dX12_readOne_69 ?_
        refine j_iconst hx dX12_readOne_72 ?_
        refine j_isub hx (r := (s25 a 7) - 1) dX12_readOne_73 (by omega) ?_
        refine p13_7 hx hG ha kf_RX12_177 dX12_readOne_74 ?_
        obtain ⟨s27, e_s27⟩ : ∃ z, z = zU s26 a 7 ((s25 a 7) - 1) := ⟨_, rfl⟩
        rw [← e_s27]
        have hS_s27 : zSK G s27 := by rw [e_s27]; exact zSK_F hS_s26 ha rfl rfl rfl (by omega)
        refine j_aload_n hx 1 dX12_readOne_77 rfl ?_
        refine j_bipush hx dX12_readOne_78 rfl ?_
        refine j_iconst hx dX12_readOne_80 ?_
        refine j_iconst hx dX12_readOne_81 ?_
        have g482 : s27 a 5 = s25 a 5 := (by rw [e_s27, zU_at (Or.inr (by decide)), (zFr_g hF_s26 ha (by decide))])
        have g483 : s27 a 38 = s25 a 38 := (by rw [e_s27, zU_at (Or.inr (by decide)), (zFr_g hF_s26 ha (by decide))])
        have g484 : (s27 (gP G a 31)) = (s0 (gP G a 31)) := by rw [e_s27, zU_ne (zne ha (zr (k := 31) (t2 := 88) hG ha rfl) (by decide)), hF_s26 (gP G a 31) (by rw [(zr (k := 31) (t2 := 88) hG ha rfl)]; decide), hF_s25 (gP G a 31) (by rw [(zr (k := 31) (t2 := 88) hG ha rfl)]; decide), hF_s2 (gP G a 31) (by rw [(zr (k := 31) (t2 := 88) hG ha rfl)]; decide), hF_s1 (gP G a 31) (by rw [(zr (k := 31) (t2 := 88) hG ha rfl)]; decide)]
        have g485 : zRp (s27 (gP G a 31)) 0 (s27 a 38).toNat = zRp (s0 (gP G a 31)) 0 (s0 a 38).toNat := by rw [g484, show s27 a 38 = s0 a 38 by omega]
        have g486 : s27 a 0 = s25 a 0 := (by rw [e_s27, zU_at (Or.inr (by decide)), (zFr_g hF_s26 ha (by decide))])
        have f487 := zf hS_s25 ha (k := 0) rfl
        have g488 : s27 a 3 = s25 a 3 := (by rw [e_s27, zU_at (Or.inr (by decide)), (zFr_g hF_s26 ha (by decide))])
        have g489 : s27 a 4 = s25 a 4 := (by rw [e_s27, zU_at (Or.inr (by decide)), (zFr_g hF_s26 ha (by decide))])
        have g490 : s27 a 7 = (s25 a 7) - 1 := (by rw [e_s27, zU_eq])
        have g491 : s27 a 21 = s25 a 21 := (by rw [e_s27, zU_at (Or.inr (by decide)), (zFr_g hF_s26 ha (by decide))])
        have f492 := zf hS_s25 ha (k := 21) rfl
        have g493 : s27 a 22 = s25 a 22 := (by rw [e_s27, zU_at (Or.inr (by decide)), (zFr_g hF_s26 ha (by decide))])
        have f494 := zf hS_s25 ha (k := 22) rfl
        have g495 : s27 a 23 = s25 a 23 := (by rw [e_s27, zU_at (Or.inr (by decide)), (zFr_g hF_s26 ha (by decide))])
        have f496 := zf hS_s25 ha (k := 23) rfl
        have g497 : s27 a 24 = s25 a 24 := (by rw [e_s27, zU_at (Or.inr (by decide)), (zFr_g hF_s26 ha (by decide))])
        have f498 := zf hS_s25 ha (k := 24) rfl
        have g499 : s27 a 51 = s25 a 51 := (by rw [e_s27, zU_at (Or.inr (by decide)), (zFr_g hF_s26 ha (by decide))])
        have f500 := zf hS_s25 ha (k := 51) rfl
        have g501 : s27 a 52 = s25 a 52 := (by rw [e_s27, zU_at (Or.inr (by decide)), (zFr_g hF_s26 ha (by decide))])
        have f502 := zf hS_s25 ha (k := 52) rfl
        refine j_callV hx hG (c_X12_emit hst a 20 0 0) lk_RX12_277 ha (by decide) rfl rfl rfl rfl [.int (zI 20), .int (zI 0), .int (zI 0)] ⟨rfl, hG, hS_s27, ha, (by omega), (by omega), (by omega), (by omega), ((by have q1 : s27 (gP G a 31) = s26 (gP G a 31) := (by rw [e_s27, zU_ne (zne ha (zr (k := 31) (t2 := 88) hG ha rfl) (by decide))]); have q2 : s27 (gP G a 32) = s26 (gP G a 32) := (by rw [e_s27, zU_ne (zne ha (zr (k := 32) (t2 := 89) hG ha rfl) (by decide))]); rw [q1, q2]; exact (zNv_k q481.2.2.2.2.2 (by omega) (by omega)))), (by omega)⟩ rfl rfl ⟨by decide, by decide⟩ ⟨by decide, by decide⟩ (k2 := 0) (n2 := 0) rfl rfl (Nat.le_of_ble_eq_true rfl) dX12_readOne_82 (kVM (fun s28 hS_s28 hF_s28 q504 => ?_))
        have f505 := zf hS_s28 ha (k := 4) rfl
        have f506 := zf hS_s28 ha (k := 5) rfl
        have f507 := zf hS_s28 ha (k := 7) rfl
        have f508 := zf hS_s28 ha (k := 38) rfl
        have f509 := zf hS_s28 ha (k := 0) rfl
        have f510 := zf hS_s28 ha (k := 3) rfl
        have f511 := zf hS_s28 ha (k := 21) rfl
        have f512 := zf hS_s28 ha (k := 22) rfl
        have f513 := zf hS_s28 ha (k := 23) rfl
        have f514 := zf hS_s28 ha (k := 24) rfl
        have f515 := zf hS_s28 ha (k := 51) rfl
        have f516 := zf hS_s28 ha (k := 52) rfl
        exact j_vret hx hq rfl (by decide) (by decide) dX12_readOne_85 ⟨rfl, rfl, hS_s28, (zFr_t (zFr_u (zFr_t (zFr_t (zFr_t (zFr_t zFr_rf hF_s1 (by decide)) hF_s2 (by decide)) hF_s25 (by decide)) hF_s26 (by decide)) e_s27 ha (by decide)) hF_s28 (by decide)), ⟨by omega, by omega, by omega, by omega, by omega, (zNv_k q504.2.1 (by omega) (by omega)), by omega, by omega, by omega, by omega, by omega, by omega, by omega, by omega⟩⟩
    · skip
      refine j_aload_n hx 0 dX12_readOne_17 rfl ?_
      refine j_iconst hx dX12_readOne_18 ?_
      have f517 := zf hS_s1 ha (k := 4) rfl
      have f518 := zf hS_s1 ha (k := 7) rfl
      have f519 := zf hS_s1 ha (k := 5) rfl
      have f520 := zf hS_s1 ha (k := 0) rfl
      have f521 := zf hS_s1 ha (k := 3) rfl
      have f522 := zf hS_s1 ha (k := 21) rfl
      have f523 := zf hS_s1 ha (k := 22) rfl
      have f524 := zf hS_s1 ha (k := 23) rfl
      have f525 := zf hS_s1 ha (k := 24) rfl
      have f526 := zf hS_s1 ha (k := 38) rfl
      have f527 := zf hS_s1 ha (k := 51) rfl
      have f528 := zf hS_s1 ha (k := 52) rfl
      refine j_callV hx hG (c_X12_opensOne hst a 1) lk_RX12_286 ha (by decide) rfl rfl rfl rfl [.int (zI 1)] ⟨rfl, hG, hS_s1, ha, (by omega), (by omega), (by omega)⟩ rfl rfl ⟨by decide, by decide⟩ ⟨by decide, by decide⟩ (k2 := 0) (n2 := 0) rfl rfl (Nat.le_of_ble_eq_true rfl) dX12_readOne_19 (kVM (fun s29 hS_s29 hF_s29 q530 => ?_))
      refine j_aload_n hx 0 dX12_readOne_22 rfl ?_
      have f531 := zf hS_s29 ha (k := 7) rfl
      have f532 := zf hS_s29 ha (k := 3) rfl
      have f533 := zf hS_s29 ha (k := 4) rfl
      have f534 := zf hS_s29 ha (k := 5) rfl
      have f535 := zf hS_s29 ha (k := 38) rfl
      have g536 : (s29 (gP G a 31)) = (s0 (gP G a 31)) := by rw [hF_s29 (gP G a 31) (by rw [(zr (k := 31) (t2 := 88) hG ha rfl)]; decide), hF_s1 (gP G a 31) (by rw [(zr (k := 31) (t2 := 88) hG ha rfl)]; decide)]
      have g537 : zRp (s29 (gP G a 31)) 0 (s29 a 38).toNat = zRp (s0 (gP G a 31)) 0 (s0 a 38).toNat := by rw [g536, show s29 a 38 = s0 a 38 by omega]
      refine j_callV hx hG (c_X12_readAny_7 hst a) lk_RX12_289 ha (by decide) rfl rfl rfl rfl [] ⟨rfl, hG, hS_s29, ha, (by omega), (by omega), (by omega), (by omega), ((by have q1 : s29 (gP G a 31) = s0 (gP G a 31) := (by rw [hF_s29 (gP G a 31) (by rw [(zr (k := 31) (t2 := 88) hG ha rfl)]; decide), hF_s1 (gP G a 31) (by rw [(zr (k := 31) (t2 := 88) hG ha rfl)]; decide)]); have q2 : s29 (gP G a 32) = s0 (gP G a 32) := (by rw [hF_s29 (gP G a 32) (by rw [(zr (k := 32) (t2 := 89) hG ha rfl)]; decide), hF_s1 (gP G a 32) (by rw [(zr (k := 32) (t2 := 89) hG ha rfl)]; decide)]); rw [q1, q2]; exact (zNv_k e4 (by omega) (by omega)))), (by omega)⟩ rfl rfl ⟨by decide, by decide⟩ ⟨by decide, by decide⟩ (k2 := 0) (n2 := 0) rfl rfl (Nat.le_of_ble_eq_true rfl) dX12_readOne_23 (kVM (fun s30 hS_s30 hF_s30 q539 => ?_))
      refine j_aload_n hx 0 dX12_readOne_26 rfl ?_
      refine j_bipush hx dX12_readOne_27 rfl ?_
      have g540 : s30 a 4 = s29 a 4 := (by rw [(zFr_g hF_s30 ha (by decide))])
      have g541 : s30 a 3 = s29 a 3 := (by rw [(zFr_g hF_s30 ha (by decide))])
      have g542 : s30 a 5 = s29 a 5 := (by rw [(zFr_g hF_s30 ha (by decide))])
      have g543 : s30 a 0 = s29 a 0 := (by rw [(zFr_g hF_s30 ha (by decide))])
      have f544 := zf hS_s29 ha (k := 0) rfl
      have g545 : s30 a 7 = s29 a 7 := (by rw [(zFr_g hF_s30 ha (by decide))])
      have g546 : s30 a 21 = s29 a 21 := (by rw [(zFr_g hF_s30 ha (by decide))])
      have f547 := zf hS_s29 ha (k := 21) rfl
      have g548 : s30 a 22 = s29 a 22 := (by rw [(zFr_g hF_s30 ha (by decide))])
      have f549 := zf hS_s29 ha (k := 22) rfl
      have g550 : s30 a 23 = s29 a 23 := (by rw [(zFr_g hF_s30 ha (by decide))])
      have f551 := zf hS_s29 ha (k := 23) rfl
      have g552 : s30 a 24 = s29 a 24 := (by rw [(zFr_g hF_s30 ha (by decide))])
      have f553 := zf hS_s29 ha (k := 24) rfl
      have g554 : s30 a 38 = s29 a 38 := (by rw [(zFr_g hF_s30 ha (by decide))])
      have g555 : s30 a 51 = s29 a 51 := (by rw [(zFr_g hF_s30 ha (by decide))])
      have f556 := zf hS_s29 ha (k := 51) rfl
      have g557 : s30 a 52 = s29 a 52 := (by rw [(zFr_g hF_s30 ha (by decide))])
      have f558 := zf hS_s29 ha (k := 52) rfl
      refine j_callV hx hG (c_X12_sign hst a 93) lk_RX12_262 ha (by decide) rfl rfl rfl rfl [.int (zI 93)] ⟨rfl, hG, hS_s30, ha, (by omega), (by omega)⟩ rfl rfl ⟨by decide, by decide⟩ ⟨by decide, by decide⟩ (k2 := 0) (n2 := 0) rfl rfl (Nat.le_of_ble_eq_true rfl) dX12_readOne_29 (kVM (fun s31 hS_s31 hF_s31 q560 => ?_))
      refine j_aload_n hx 0 dX12_readOne_32 rfl ?_
      refine j_dup hx dX12_readOne_33 rfl ?_
      have f561 := zf hS_s31 ha (k := 7) rfl
      refine g13_7 hx hG ha kf_RX12_177 rfl dX12_readOne_34 ?_
      refine j_iconst hx dX12_readOne_37 ?_
      refine j_isub hx (r := (s31 a 7) - 1) dX12_readOne_38 (by omega) ?_
      refine p13_7 hx hG ha kf_RX12_177 dX12_readOne_39 ?_
      obtain ⟨s32, e_s32⟩ : ∃ z, z = zU s31 a 7 ((s31 a 7) - 1) := ⟨_, rfl⟩
      rw [← e_s32]
      have hS_s32 : zSK G s32 := by rw [e_s32]; exact zSK_F hS_s31 ha rfl rfl rfl (by omega)
      have g562 : s32 a 4 = s31 a 4 := (by rw [e_s32, zU_at (Or.inr (by decide))])
      have f563 := zf hS_s31 ha (k := 4) rfl
      have g564 : s32 a 5 = s31 a 5 := (by rw [e_s32, zU_at (Or.inr (by decide))])
      have f565 := zf hS_s31 ha (k := 5) rfl
      have g566 : s32 a 7 = (s31 a 7) - 1 := (by rw [e_s32, zU_eq])
      have g567 : s32 a 38 = s31 a 38 := (by rw [e_s32, zU_at (Or.inr (by decide))])
      have f568 := zf hS_s31 ha (k := 38) rfl
      have g569 : (s32 (gP G a 31)) = (s0 (gP G a 31)) := by rw [e_s32, zU_ne (zne ha (zr (k := 31) (t2 := 88) hG ha rfl) (by decide)), hF_s31 (gP G a 31) (by rw [(zr (k := 31) (t2 := 88) hG ha rfl)]; decide), hF_s30 (gP G a 31) (by rw [(zr (k := 31) (t2 := 88) hG ha rfl)]; decide), hF_s29 (gP G a 31) (by rw [(zr (k := 31) (t2 := 88) hG ha rfl)]; decide), hF_s1 (gP G a 31) (by rw [(zr (k := 31) (t2 := 88) hG ha rfl)]; decide)]
      have g570 : zRp (s32 (gP G a 31)) 0 (s32 a 38).toNat = zRp (s0 (gP G a 31)) 0 (s0 a 38).toNat := by rw [g569, show s32 a 38 = s0 a 38 by omega]
      have g571 : s32 a 0 = s31 a 0 := (by rw [e_s32, zU_at (Or.inr (by decide))])
      have f572 := zf hS_s31 ha (k := 0) rfl
      have g573 : s32 a 3 = s31 a 3 := (by rw [e_s32, zU_at (Or.inr (by decide))])
      have f574 := zf hS_s31 ha (k := 3) rfl
      have g575 : s32 a 21 = s31 a 21 := (by rw [e_s32, zU_at (Or.inr (by decide))])
      have f576 := zf hS_s31 ha (k := 21) rfl
      have g577 : s32 a 22 = s31 a 22 := (by rw [e_s32, zU_at (Or.inr (by decide))])
      have f578 := zf hS_s31 ha (k := 22) rfl
      have g579 : s32 a 23 = s31 a 23 := (by rw [e_s32, zU_at (Or.inr (by decide))])
      have f580 := zf hS_s31 ha (k := 23) rfl
      have g581 : s32 a 24 = s31 a 24 := (by rw [e_s32, zU_at (Or.inr (by decide))])
      have f582 := zf hS_s31 ha (k := 24) rfl
      have g583 : s32 a 51 = s31 a 51 := (by rw [e_s32, zU_at (Or.inr (by decide))])
      have f584 := zf hS_s31 ha (k := 51) rfl
      have g585 : s32 a 52 = s31 a 52 := (by rw [e_s32, zU_at (Or.inr (by decide))])
      have f586 := zf hS_s31 ha (k := 52) rfl
      exact j_vret hx hq rfl (by decide) (by decide) dX12_readOne_42 ⟨rfl, rfl, hS_s32, (zFr_u (zFr_t (zFr_t (zFr_t (zFr_t zFr_rf hF_s1 (by decide)) hF_s29 (by decide)) hF_s30 (by decide)) hF_s31 (by decide)) e_s32 ha (by decide)), ⟨by omega, by omega, by omega, by omega, by omega, (by have q1 : s32 (gP G a 31) = s30 (gP G a 31) := (by rw [e_s32, zU_ne (zne ha (zr (k := 31) (t2 := 88) hG ha rfl) (by decide)), hF_s31 (gP G a 31) (by rw [(zr (k := 31) (t2 := 88) hG ha rfl)]; decide)]); have q2 : s32 (gP G a 32) = s30 (gP G a 32) := (by rw [e_s32, zU_ne (zne ha (zr (k := 32) (t2 := 89) hG ha rfl) (by decide)), hF_s31 (gP G a 32) (by rw [(zr (k := 32) (t2 := 89) hG ha rfl)]; decide)]); rw [q1, q2]; exact (zNv_k q539.2.2.2.2.2 (by omega) (by omega))), by omega, by omega, by omega, by omega, by omega, by omega, by omega, by omega⟩⟩
  · skip
    have f587 := zf hS0 ha (k := 4) rfl
    have f588 := zf hS0 ha (k := 5) rfl
    have f589 := zf hS0 ha (k := 3) rfl
    have f590 := zf hS0 ha (k := 38) rfl
    have f591 := zf hS0 ha (k := 0) rfl
    have f592 := zf hS0 ha (k := 21) rfl
    have f593 := zf hS0 ha (k := 22) rfl
    have f594 := zf hS0 ha (k := 23) rfl
    have f595 := zf hS0 ha (k := 24) rfl
    have f596 := zf hS0 ha (k := 51) rfl
    have f597 := zf hS0 ha (k := 52) rfl
    exact j_vret hx hq rfl (by decide) (by decide) dX12_readOne_7 ⟨rfl, rfl, hS0, zFr_rf, ⟨by omega, by omega, by omega, by omega, by omega, (zNv_k e4 (by omega) (by omega)), by omega, by omega, by omega, by omega, by omega, by omega, by omega, by omega⟩⟩

set_option maxHeartbeats 1200000 in
set_option maxRecDepth 20000 in
theorem c_X12_readAll_6 {E : zE} {l : Launch} (hst : l.stackTraces = false) (a : Nat) : Con E l yX12_readAll cX12_readAll 1 none { frames := 7, cells := 0, slots := 0, locals := 265 } (fun G s vs => vs = [.ref a] ∧ zGK G ∧ zSK G s ∧ (gT G a = 13) ∧ (s a 7 = 6) ∧ (s a 3 ≤ 150) ∧ (s a 4 ≤ s a 3 + 2) ∧ (s a 5 = -1 → s a 38 ≤ s a 4) ∧ (zNv (s a 5) (s (gP G a 31)) (s (gP G a 32)) (s a 38))) (fun G s _ => pV (fun G2 s2 => G2 = G ∧ zSK G s2 ∧ zFr [13, 88, 89, 90] G s s2 ∧ s a 4 ≤ s2 a 4 ∧ s a 5 ≤ s2 a 5 ∧ s2 a 4 ≤ s a 3 + 2 ∧ s2 a 7 = 6 ∧ (s2 a 5 = -1 → (zRp (s2 (gP G a 31)) 0 (s2 a 38).toNat = zRp (s (gP G a 31)) 0 (s a 38).toNat + 1 ∧ s a 38 + 1 ≤ s2 a 38 ∧ s2 a 38 - s a 38 ≤ s2 a 4 - s a 4 ∧ s2 a 4 ≤ s a 3)) ∧ zNv (s2 a 5) (s2 (gP G a 31)) (s2 (gP G a 32)) (s2 a 38) ∧ s2 a 0 = s a 0 ∧ s2 a 3 = s a 3 ∧ s2 a 21 = s a 21 ∧ s2 a 22 = s a 22 ∧ s2 a 23 = s a 23 ∧ s2 a 24 = s a 24 ∧ s2 a 51 = s a 51 ∧ s2 a 52 = s a 52)) := by
  refine Con.mk hst (by decide) (fun G s vs h => by rw [h.1]; exact Nat.le_of_ble_eq_true rfl) ?_
  rintro X G s0 vs ⟨rfl, hG, hS0, ha, e0, e1, e2, e3, e4⟩ rfl hx hq
  show JJ X E 1 G s0 0 0 [(0, .ref a)] 0 []
  have z1 : s0 a 5 = -1 → 0 ≤ zRp (s0 (gP G a 31)) 0 (s0 a 38).toNat := fun h => zRv_nn (e4 h)
  have z2 : tOf 16 = 1476 := by decide +kernel
  refine j_aload_n hx 0 dX12_readAll_0 rfl ?_
  have f3 := zf hS0 ha (k := 3) rfl
  have f4 := zf hS0 ha (k := 4) rfl
  have f5 := zf hS0 ha (k := 5) rfl
  have f6 := zf hS0 ha (k := 38) rfl
  have f7 := zf hS0 ha (k := 0) rfl
  have f8 := zf hS0 ha (k := 21) rfl
  have f9 := zf hS0 ha (k := 22) rfl
  have f10 := zf hS0 ha (k := 23) rfl
  have f11 := zf hS0 ha (k := 24) rfl
  have f12 := zf hS0 ha (k := 51) rfl
  have f13 := zf hS0 ha (k := 52) rfl
  refine j_callV hx hG (c_X12_readOne_6 hst a) lk_RX12_281 ha (by decide) rfl rfl rfl rfl [] ⟨rfl, hG, hS0, ha, (by omega), (by omega), (by omega), (by omega), ((zNv_k e4 (by omega) (by omega)))⟩ rfl rfl ⟨by decide, by decide⟩ ⟨by decide, by decide⟩ (k2 := 0) (n2 := 0) rfl rfl (Nat.le_of_ble_eq_true rfl) dX12_readAll_1 (kVM (fun s1 hS_s1 hF_s1 q15 => ?_))
  have f16 := zf hS_s1 ha (k := 0) rfl
  have f17 := zf hS_s1 ha (k := 3) rfl
  have f18 := zf hS_s1 ha (k := 21) rfl
  have f19 := zf hS_s1 ha (k := 22) rfl
  have f20 := zf hS_s1 ha (k := 23) rfl
  have f21 := zf hS_s1 ha (k := 24) rfl
  have f22 := zf hS_s1 ha (k := 51) rfl
  have f23 := zf hS_s1 ha (k := 52) rfl
  have f24 := zf hS_s1 ha (k := 4) rfl
  have f25 := zf hS_s1 ha (k := 5) rfl
  have f26 := zf hS_s1 ha (k := 38) rfl
  have c4_2 : ∀ (m_c4_2 : Nat) (s3 : zS), 3000 - 2 * s3 a 4 - s3 a 5 < m_c4_2 → (zSK G s3) → (zFr [13, 88, 89, 90] G s1 s3) → (s3 a 0 = s1 a 0) → (s3 a 3 = s1 a 3) → (s3 a 21 = s1 a 21) → (s3 a 22 = s1 a 22) → (s3 a 23 = s1 a 23) → (s3 a 24 = s1 a 24) → (s3 a 51 = s1 a 51) → (s3 a 52 = s1 a 52) → (s1 a 4 ≤ s3 a 4) → (s1 a 5 ≤ s3 a 5) → (s3 a 4 ≤ s3 a 3 + 2) → (s3 a 5 = -1 → (zRp (s3 (gP G a 31)) 0 (s3 a 38).toNat = zRp (s1 (gP G a 31)) 0 (s1 a 38).toNat ∧ s1 a 38 ≤ s3 a 38 ∧ s3 a 38 - s1 a 38 ≤ s3 a 4 - s1 a 4 ∧ s3 a 4 ≤ s3 a 3)) → (zNv (s3 a 5) (s3 (gP G a 31)) (s3 (gP G a 32)) (s3 a 38)) → (s3 a 7 = 6) → (s3 a 4 ≤ 700) → (s3 a 5 ≤ 700) → JJ X E 1 G s3 0 0 [(0, .ref a)] 4 [] := by
    intro m_c4_2
    induction m_c4_2 with
    | zero => intro s3 hm_c4_2 hS_s3 hF_s3 fA6 fA7 fA8 fA9 fA10 fA11 fA12 fA13 fA14 fA15 fA16 fA17 fA18 fA19 fA20 fA21; exfalso; omega
    | succ m_c4_2 ih_c4_2 => 
      intro s3 hm_c4_2 hS_s3 hF_s3 fA6 fA7 fA8 fA9 fA10 fA11 fA12 fA13 fA14 fA15 fA16 fA17 fA18 fA19 fA20 fA21
      refine j_aload_n hx 0 dX12_readAll_4 rfl ?_
      refine j_callV hx hG (c_X12_fine hst a) lk_RX12_166 ha (by decide) rfl rfl rfl rfl [] ⟨rfl, hG, hS_s3, ha⟩ rfl rfl ⟨by decide, by decide⟩ ⟨by decide, by decide⟩ (k2 := 0) (n2 := 0) rfl rfl (Nat.le_of_ble_eq_true rfl) dX12_readAll_5 (kIP (fun v27 q28 => ?_))
      refine j_if_eq hx 43 dX12_readAll_8 rfl (by omega) (fun h29 => ?_) (fun h29 => ?_)
      · skip
        have f30 := zf hS_s3 ha (k := 4) rfl
        have f31 := zf hS_s3 ha (k := 5) rfl
        have f32 := zf hS_s3 ha (k := 7) rfl
        have f33 := zf hS_s3 ha (k := 38) rfl
        have f34 := zf hS_s3 ha (k := 0) rfl
        have f35 := zf hS_s3 ha (k := 3) rfl
        have f36 := zf hS_s3 ha (k := 21) rfl
        have f37 := zf hS_s3 ha (k := 22) rfl
        have f38 := zf hS_s3 ha (k := 23) rfl
        have f39 := zf hS_s3 ha (k := 24) rfl
        have f40 := zf hS_s3 ha (k := 51) rfl
        have f41 := zf hS_s3 ha (k := 52) rfl
        exact j_vret hx hq rfl (by decide) (by decide) dX12_readAll_43 ⟨rfl, rfl, hS_s3, (zFr_t (zFr_t zFr_rf hF_s1 (by decide)) hF_s3 (by decide)), ⟨by omega, by omega, by omega, by omega, by omega, (zNv_k fA18 (by omega) (by omega)), by omega, by omega, by omega, by omega, by omega, by omega, by omega, by omega⟩⟩
      · skip
        refine j_aload_n hx 0 dX12_readAll_11 rfl ?_
        have f42 := zf hS_s3 ha (k := 4) rfl
        have f43 := zf hS_s3 ha (k := 3) rfl
        have f44 := zf hS_s3 ha (k := 0) rfl
        have f45 := zf hS_s3 ha (k := 5) rfl
        have f46 := zf hS_s3 ha (k := 7) rfl
        have f47 := zf hS_s3 ha (k := 21) rfl
        have f48 := zf hS_s3 ha (k := 22) rfl
        have f49 := zf hS_s3 ha (k := 23) rfl
        have f50 := zf hS_s3 ha (k := 24) rfl
        have f51 := zf hS_s3 ha (k := 38) rfl
        have f52 := zf hS_s3 ha (k := 51) rfl
        have f53 := zf hS_s3 ha (k := 52) rfl
        refine j_callV hx hG (c_X12_word_h hst a) lk_RX12_250 ha (by decide) rfl rfl rfl rfl [] ⟨rfl, hG, hS_s3, ha, (by omega)⟩ rfl rfl ⟨by decide, by decide⟩ ⟨by decide, by decide⟩ (k2 := 0) (n2 := 0) rfl rfl (Nat.le_of_ble_eq_true rfl) dX12_readAll_12 (kIM (fun v54 s22 hS_s22 hF_s22 q55 => ?_))
        refine j_ldcwT hx (i := 16) 36 (by decide) rfl rfl rfl dX12_readAll_15 ?_
        refine j_callS hx (c_X12_of hst 16) lk_RX12_215 [.ref (zTa E 16)] ⟨rfl, hG, hS_s22, (by decide)⟩ rfl rfl ⟨by decide, by decide⟩ ⟨by decide, by decide⟩ (k2 := 0) (n2 := 0) rfl rfl (Nat.le_of_ble_eq_true rfl) dX12_readAll_18 (kIP (fun v56 q57 => ?_))
        refine j_icmp_ne hx 43 dX12_readAll_21 rfl (by omega) (by omega) (fun h58 => ?_) (fun h58 => ?_)
        · skip
          have f59 := zf hS_s22 ha (k := 4) rfl
          have f60 := zf hS_s22 ha (k := 5) rfl
          have f61 := zf hS_s22 ha (k := 7) rfl
          have f62 := zf hS_s22 ha (k := 38) rfl
          have g63 : (s22 (gP G a 31)) = (s3 (gP G a 31)) := by rw [hF_s22 (gP G a 31) (by rw [(zr (k := 31) (t2 := 88) hG ha rfl)]; decide)]
          have g64 : zRp (s22 (gP G a 31)) 0 (s22 a 38).toNat = zRp (s3 (gP G a 31)) 0 (s3 a 38).toNat := by rw [g63, show s22 a 38 = s3 a 38 by omega]
          have f65 := zf hS_s22 ha (k := 0) rfl
          have f66 := zf hS_s22 ha (k := 3) rfl
          have f67 := zf hS_s22 ha (k := 21) rfl
          have f68 := zf hS_s22 ha (k := 22) rfl
          have f69 := zf hS_s22 ha (k := 23) rfl
          have f70 := zf hS_s22 ha (k := 24) rfl
          have f71 := zf hS_s22 ha (k := 51) rfl
          have f72 := zf hS_s22 ha (k := 52) rfl
          exact j_vret hx hq rfl (by decide) (by decide) dX12_readAll_43 ⟨rfl, rfl, hS_s22, (zFr_t (zFr_t (zFr_t zFr_rf hF_s1 (by decide)) hF_s3 (by decide)) hF_s22 (by decide)), ⟨by omega, by omega, by omega, by omega, by omega, (by have q1 : s22 (gP G a 31) = s3 (gP G a 31) := (by rw [hF_s22 (gP G a 31) (by rw [(zr (k := 31) (t2 := 88) hG ha rfl)]; decide)]); have q2 : s22 (gP G a 32) = s3 (gP G a 32) := (by rw [hF_s22 (gP G a 32) (by rw [(zr (k := 32) (t2 := 89) hG ha rfl)]; decide)]); rw [q1, q2]; exact (zNv_k fA18 (by omega) (by omega))), by omega, by omega, by omega, by omega, by omega, by omega, by omega, by omega⟩⟩
        · skip
          refine j_aload_n hx 0 dX12_readAll_24 rfl ?_
          have f73 := zf hS_s22 ha (k := 4) rfl
          have f74 := zf hS_s22 ha (k := 3) rfl
          have g75 : s22 (gP G a 9) (s22 a 4).toNat = s0 (gP G a 9) (s22 a 4).toNat := (by rw [(zFr_g hF_s22 (zr (k := 9) (t2 := 72) hG ha rfl) (by decide)), (zFr_g hF_s3 (zr (k := 9) (t2 := 72) hG ha rfl) (by decide)), (zFr_g hF_s1 (zr (k := 9) (t2 := 72) hG ha rfl) (by decide))])
          have f76 := zf hS_s22 ha (k := 0) rfl
          have f77 := zf hS_s22 ha (k := 5) rfl
          have f78 := zf hS_s22 ha (k := 7) rfl
          have f79 := zf hS_s22 ha (k := 21) rfl
          have f80 := zf hS_s22 ha (k := 22) rfl
          have f81 := zf hS_s22 ha (k := 23) rfl
          have f82 := zf hS_s22 ha (k := 24) rfl
          have f83 := zf hS_s22 ha (k := 38) rfl
          have f84 := zf hS_s22 ha (k := 51) rfl
          have f85 := zf hS_s22 ha (k := 52) rfl
          refine j_callV hx hG (c_X12_pass_h hst a) lk_RX12_256 ha (by decide) rfl rfl rfl rfl [] ⟨rfl, hG, hS_s22, ha, (by omega)⟩ rfl rfl ⟨by decide, by decide⟩ ⟨by decide, by decide⟩ (k2 := 0) (n2 := 0) rfl rfl (Nat.le_of_ble_eq_true rfl) dX12_readAll_25 (kVM (fun s23 hS_s23 hF_s23 q87 => ?_))
          refine j_aload_n hx 0 dX12_readAll_28 rfl ?_
          have f88 := zf hS_s23 ha (k := 7) rfl
          have f89 := zf hS_s23 ha (k := 3) rfl
          have f90 := zf hS_s23 ha (k := 4) rfl
          have f91 := zf hS_s23 ha (k := 5) rfl
          have f92 := zf hS_s23 ha (k := 38) rfl
          have g93 : (s23 (gP G a 31)) = (s3 (gP G a 31)) := by rw [hF_s23 (gP G a 31) (by rw [(zr (k := 31) (t2 := 88) hG ha rfl)]; decide), hF_s22 (gP G a 31) (by rw [(zr (k := 31) (t2 := 88) hG ha rfl)]; decide)]
          have g94 : zRp (s23 (gP G a 31)) 0 (s23 a 38).toNat = zRp (s3 (gP G a 31)) 0 (s3 a 38).toNat := by rw [g93, show s23 a 38 = s3 a 38 by omega]
          have f95 := zf hS_s23 ha (k := 0) rfl
          have f96 := zf hS_s23 ha (k := 21) rfl
          have f97 := zf hS_s23 ha (k := 22) rfl
          have f98 := zf hS_s23 ha (k := 23) rfl
          have f99 := zf hS_s23 ha (k := 24) rfl
          have f100 := zf hS_s23 ha (k := 51) rfl
          have f101 := zf hS_s23 ha (k := 52) rfl
          refine j_callV hx hG (c_X12_readOne_6 hst a) lk_RX12_281 ha (by decide) rfl rfl rfl rfl [] ⟨rfl, hG, hS_s23, ha, (by omega), (by omega), (by omega), (by omega), ((by have q1 : s23 (gP G a 31) = s3 (gP G a 31) := (by rw [hF_s23 (gP G a 31) (by rw [(zr (k := 31) (t2 := 88) hG ha rfl)]; decide), hF_s22 (gP G a 31) (by rw [(zr (k := 31) (t2 := 88) hG ha rfl)]; decide)]); have q2 : s23 (gP G a 32) = s3 (gP G a 32) := (by rw [hF_s23 (gP G a 32) (by rw [(zr (k := 32) (t2 := 89) hG ha rfl)]; decide), hF_s22 (gP G a 32) (by rw [(zr (k := 32) (t2 := 89) hG ha rfl)]; decide)]); rw [q1, q2]; exact (zNv_k fA18 (by omega) (by omega))))⟩ rfl rfl ⟨by decide, by decide⟩ ⟨by decide, by decide⟩ (k2 := 0) (n2 := 0) rfl rfl (Nat.le_of_ble_eq_true rfl) dX12_readAll_29 (kVM (fun s24 hS_s24 hF_s24 q103 => ?_))
          refine j_aload_n hx 0 dX12_readAll_32 rfl ?_
          refine j_bipush hx dX12_readAll_33 rfl ?_
          refine j_iconst hx dX12_readAll_35 ?_
          refine j_iconst hx dX12_readAll_36 ?_
          have f104 := zf hS_s24 ha (k := 5) rfl
          have f105 := zf hS_s24 ha (k := 38) rfl
          have f106 := zf hS_s24 ha (k := 0) rfl
          have f107 := zf hS_s24 ha (k := 3) rfl
          have f108 := zf hS_s24 ha (k := 4) rfl
          have f109 := zf hS_s24 ha (k := 21) rfl
          have f110 := zf hS_s24 ha (k := 22) rfl
          have f111 := zf hS_s24 ha (k := 23) rfl
          have f112 := zf hS_s24 ha (k := 24) rfl
          have f113 := zf hS_s24 ha (k := 51) rfl
          have f114 := zf hS_s24 ha (k := 52) rfl
          refine j_callV hx hG (c_X12_emit hst a 21 0 0) lk_RX12_277 ha (by decide) rfl rfl rfl rfl [.int (zI 21), .int (zI 0), .int (zI 0)] ⟨rfl, hG, hS_s24, ha, (by omega), (by omega), (by omega), (by omega), ((zNv_k q103.2.2.2.2.2.1 (by omega) (by omega))), (by omega)⟩ rfl rfl ⟨by decide, by decide⟩ ⟨by decide, by decide⟩ (k2 := 0) (n2 := 0) rfl rfl (Nat.le_of_ble_eq_true rfl) dX12_readAll_37 (kVM (fun s25 hS_s25 hF_s25 q116 => ?_))
          refine j_goto hx 4 dX12_readAll_40 rfl ?_
          have f117 := zf hS_s25 ha (k := 4) rfl
          have f118 := zf hS_s25 ha (k := 5) rfl
          have f119 := zf hS_s25 ha (k := 0) rfl
          have f120 := zf hS_s25 ha (k := 3) rfl
          have f121 := zf hS_s25 ha (k := 21) rfl
          have f122 := zf hS_s25 ha (k := 22) rfl
          have f123 := zf hS_s25 ha (k := 23) rfl
          have f124 := zf hS_s25 ha (k := 24) rfl
          have f125 := zf hS_s25 ha (k := 51) rfl
          have f126 := zf hS_s25 ha (k := 52) rfl
          have f127 := zf hS_s25 ha (k := 38) rfl
          have f128 := zf hS_s25 ha (k := 7) rfl
          exact j_sub [0] [(0, .ref a)] rfl (ih_c4_2 s25 (by omega) hS_s25 (zFr_t (zFr_t (zFr_t (zFr_t (zFr_t zFr_rf hF_s3 (by decide)) hF_s22 (by decide)) hF_s23 (by decide)) hF_s24 (by decide)) hF_s25 (by decide)) (by omega) (by omega) (by omega) (by omega) (by omega) (by omega) (by omega) (by omega) (by omega) (by omega) (by omega) (by omega) (zNv_k q116.2.1 (by omega) (by omega)) (by omega) (by omega) (by omega))
  exact j_sub [0] [(0, .ref a)] rfl (c4_2 (2147483648 * 4) s1 (by omega) hS_s1 zFr_rf (by omega) (by omega) (by omega) (by omega) (by omega) (by omega) (by omega) (by omega) (by omega) (by omega) (by omega) (by omega) (zNv_k q15.2.2.2.2.2.1 (by omega) (by omega)) (by omega) (by omega) (by omega))

set_option maxHeartbeats 1200000 in
set_option maxRecDepth 20000 in
theorem c_X12_readAny_6 {E : zE} {l : Launch} (hst : l.stackTraces = false) (a : Nat) : Con E l yX12_readAny cX12_readAny 1 none { frames := 8, cells := 0, slots := 0, locals := 285 } (fun G s vs => vs = [.ref a] ∧ zGK G ∧ zSK G s ∧ (gT G a = 13) ∧ (s a 7 = 6) ∧ (s a 3 ≤ 150) ∧ (s a 4 ≤ s a 3 + 2) ∧ (s a 5 = -1 → s a 38 ≤ s a 4) ∧ (zNv (s a 5) (s (gP G a 31)) (s (gP G a 32)) (s a 38))) (fun G s _ => pV (fun G2 s2 => G2 = G ∧ zSK G s2 ∧ zFr [13, 88, 89, 90] G s s2 ∧ s a 4 ≤ s2 a 4 ∧ s a 5 ≤ s2 a 5 ∧ s2 a 4 ≤ s a 3 + 2 ∧ s2 a 7 = 6 ∧ (s2 a 5 = -1 → (zRp (s2 (gP G a 31)) 0 (s2 a 38).toNat = zRp (s (gP G a 31)) 0 (s a 38).toNat + 1 ∧ s a 38 + 1 ≤ s2 a 38 ∧ s2 a 38 - s a 38 ≤ s2 a 4 - s a 4 ∧ s2 a 4 ≤ s a 3)) ∧ zNv (s2 a 5) (s2 (gP G a 31)) (s2 (gP G a 32)) (s2 a 38) ∧ s2 a 0 = s a 0 ∧ s2 a 3 = s a 3 ∧ s2 a 21 = s a 21 ∧ s2 a 22 = s a 22 ∧ s2 a 23 = s a 23 ∧ s2 a 24 = s a 24 ∧ s2 a 51 = s a 51 ∧ s2 a 52 = s a 52)) := by
  refine Con.mk hst (by decide) (fun G s vs h => by rw [h.1]; exact Nat.le_of_ble_eq_true rfl) ?_
  rintro X G s0 vs ⟨rfl, hG, hS0, ha, e0, e1, e2, e3, e4⟩ rfl hx hq
  show JJ X E 1 G s0 0 0 [(0, .ref a)] 0 []
  have z1 : s0 a 5 = -1 → 0 ≤ zRp (s0 (gP G a 31)) 0 (s0 a 38).toNat := fun h => zRv_nn (e4 h)
  have z2 : tOf 17 = 498 := by decide +kernel
  refine j_aload_n hx 0 dX12_readAny_0 rfl ?_
  have f3 := zf hS0 ha (k := 3) rfl
  have f4 := zf hS0 ha (k := 4) rfl
  have f5 := zf hS0 ha (k := 5) rfl
  have f6 := zf hS0 ha (k := 38) rfl
  have f7 := zf hS0 ha (k := 0) rfl
  have f8 := zf hS0 ha (k := 21) rfl
  have f9 := zf hS0 ha (k := 22) rfl
  have f10 := zf hS0 ha (k := 23) rfl
  have f11 := zf hS0 ha (k := 24) rfl
  have f12 := zf hS0 ha (k := 51) rfl
  have f13 := zf hS0 ha (k := 52) rfl
  refine j_callV hx hG (c_X12_readAll_6 hst a) lk_RX12_272 ha (by decide) rfl rfl rfl rfl [] ⟨rfl, hG, hS0, ha, (by omega), (by omega), (by omega), (by omega), ((zNv_k e4 (by omega) (by omega)))⟩ rfl rfl ⟨by decide, by decide⟩ ⟨by decide, by decide⟩ (k2 := 0) (n2 := 0) rfl rfl (Nat.le_of_ble_eq_true rfl) dX12_readAny_1 (kVM (fun s1 hS_s1 hF_s1 q15 => ?_))
  have f16 := zf hS_s1 ha (k := 0) rfl
  have f17 := zf hS_s1 ha (k := 3) rfl
  have f18 := zf hS_s1 ha (k := 21) rfl
  have f19 := zf hS_s1 ha (k := 22) rfl
  have f20 := zf hS_s1 ha (k := 23) rfl
  have f21 := zf hS_s1 ha (k := 24) rfl
  have f22 := zf hS_s1 ha (k := 51) rfl
  have f23 := zf hS_s1 ha (k := 52) rfl
  have f24 := zf hS_s1 ha (k := 4) rfl
  have f25 := zf hS_s1 ha (k := 5) rfl
  have f26 := zf hS_s1 ha (k := 38) rfl
  have c4_2 : ∀ (m_c4_2 : Nat) (s3 : zS), 3000 - 2 * s3 a 4 - s3 a 5 < m_c4_2 → (zSK G s3) → (zFr [13, 88, 89, 90] G s1 s3) → (s3 a 0 = s1 a 0) → (s3 a 3 = s1 a 3) → (s3 a 21 = s1 a 21) → (s3 a 22 = s1 a 22) → (s3 a 23 = s1 a 23) → (s3 a 24 = s1 a 24) → (s3 a 51 = s1 a 51) → (s3 a 52 = s1 a 52) → (s1 a 4 ≤ s3 a 4) → (s1 a 5 ≤ s3 a 5) → (s3 a 4 ≤ s3 a 3 + 2) → (s3 a 5 = -1 → (zRp (s3 (gP G a 31)) 0 (s3 a 38).toNat = zRp (s1 (gP G a 31)) 0 (s1 a 38).toNat ∧ s1 a 38 ≤ s3 a 38 ∧ s3 a 38 - s1 a 38 ≤ s3 a 4 - s1 a 4 ∧ s3 a 4 ≤ s3 a 3)) → (zNv (s3 a 5) (s3 (gP G a 31)) (s3 (gP G a 32)) (s3 a 38)) → (s3 a 7 = 6) → (s3 a 4 ≤ 700) → (s3 a 5 ≤ 700) → JJ X E 1 G s3 0 0 [(0, .ref a)] 4 [] := by
    intro m_c4_2
    induction m_c4_2 with
    | zero => intro s3 hm_c4_2 hS_s3 hF_s3 fA6 fA7 fA8 fA9 fA10 fA11 fA12 fA13 fA14 fA15 fA16 fA17 fA18 fA19 fA20 fA21; exfalso; omega
    | succ m_c4_2 ih_c4_2 => 
      intro s3 hm_c4_2 hS_s3 hF_s3 fA6 fA7 fA8 fA9 fA10 fA11 fA12 fA13 fA14 fA15 fA16 fA17 fA18 fA19 fA20 fA21
      refine j_aload_n hx 0 dX12_readAny_4 rfl ?_
      refine j_callV hx hG (c_X12_fine hst a) lk_RX12_166 ha (by decide) rfl rfl rfl rfl [] ⟨rfl, hG, hS_s3, ha⟩ rfl rfl ⟨by decide, by decide⟩ ⟨by decide, by decide⟩ (k2 := 0) (n2 := 0) rfl rfl (Nat.le_of_ble_eq_true rfl) dX12_readAny_5 (kIP (fun v27 q28 => ?_))
      refine j_if_eq hx 43 dX12_readAny_8 rfl (by omega) (fun h29 => ?_) (fun h29 => ?_)
      · skip
        have f30 := zf hS_s3 ha (k := 4) rfl
        have f31 := zf hS_s3 ha (k := 5) rfl
        have f32 := zf hS_s3 ha (k := 7) rfl
        have f33 := zf hS_s3 ha (k := 38) rfl
        have f34 := zf hS_s3 ha (k := 0) rfl
        have f35 := zf hS_s3 ha (k := 3) rfl
        have f36 := zf hS_s3 ha (k := 21) rfl
        have f37 := zf hS_s3 ha (k := 22) rfl
        have f38 := zf hS_s3 ha (k := 23) rfl
        have f39 := zf hS_s3 ha (k := 24) rfl
        have f40 := zf hS_s3 ha (k := 51) rfl
        have f41 := zf hS_s3 ha (k := 52) rfl
        exact j_vret hx hq rfl (by decide) (by decide) dX12_readAny_43 ⟨rfl, rfl, hS_s3, (zFr_t (zFr_t zFr_rf hF_s1 (by decide)) hF_s3 (by decide)), ⟨by omega, by omega, by omega, by omega, by omega, (zNv_k fA18 (by omega) (by omega)), by omega, by omega, by omega, by omega, by omega, by omega, by omega, by omega⟩⟩
      · skip
        refine j_aload_n hx 0 dX12_readAny_11 rfl ?_
        have f42 := zf hS_s3 ha (k := 4) rfl
        have f43 := zf hS_s3 ha (k := 3) rfl
        have f44 := zf hS_s3 ha (k := 0) rfl
        have f45 := zf hS_s3 ha (k := 5) rfl
        have f46 := zf hS_s3 ha (k := 7) rfl
        have f47 := zf hS_s3 ha (k := 21) rfl
        have f48 := zf hS_s3 ha (k := 22) rfl
        have f49 := zf hS_s3 ha (k := 23) rfl
        have f50 := zf hS_s3 ha (k := 24) rfl
        have f51 := zf hS_s3 ha (k := 38) rfl
        have f52 := zf hS_s3 ha (k := 51) rfl
        have f53 := zf hS_s3 ha (k := 52) rfl
        refine j_callV hx hG (c_X12_word_h hst a) lk_RX12_250 ha (by decide) rfl rfl rfl rfl [] ⟨rfl, hG, hS_s3, ha, (by omega)⟩ rfl rfl ⟨by decide, by decide⟩ ⟨by decide, by decide⟩ (k2 := 0) (n2 := 0) rfl rfl (Nat.le_of_ble_eq_true rfl) dX12_readAny_12 (kIM (fun v54 s22 hS_s22 hF_s22 q55 => ?_))
        refine j_ldcwT hx (i := 17) 37 (by decide) rfl rfl rfl dX12_readAny_15 ?_
        refine j_callS hx (c_X12_of hst 17) lk_RX12_215 [.ref (zTa E 17)] ⟨rfl, hG, hS_s22, (by decide)⟩ rfl rfl ⟨by decide, by decide⟩ ⟨by decide, by decide⟩ (k2 := 0) (n2 := 0) rfl rfl (Nat.le_of_ble_eq_true rfl) dX12_readAny_18 (kIP (fun v56 q57 => ?_))
        refine j_icmp_ne hx 43 dX12_readAny_21 rfl (by omega) (by omega) (fun h58 => ?_) (fun h58 => ?_)
        · skip
          have f59 := zf hS_s22 ha (k := 4) rfl
          have f60 := zf hS_s22 ha (k := 5) rfl
          have f61 := zf hS_s22 ha (k := 7) rfl
          have f62 := zf hS_s22 ha (k := 38) rfl
          have g63 : (s22 (gP G a 31)) = (s3 (gP G a 31)) := by rw [hF_s22 (gP G a 31) (by rw [(zr (k := 31) (t2 := 88) hG ha rfl)]; decide)]
          have g64 : zRp (s22 (gP G a 31)) 0 (s22 a 38).toNat = zRp (s3 (gP G a 31)) 0 (s3 a 38).toNat := by rw [g63, show s22 a 38 = s3 a 38 by omega]
          have f65 := zf hS_s22 ha (k := 0) rfl
          have f66 := zf hS_s22 ha (k := 3) rfl
          have f67 := zf hS_s22 ha (k := 21) rfl
          have f68 := zf hS_s22 ha (k := 22) rfl
          have f69 := zf hS_s22 ha (k := 23) rfl
          have f70 := zf hS_s22 ha (k := 24) rfl
          have f71 := zf hS_s22 ha (k := 51) rfl
          have f72 := zf hS_s22 ha (k := 52) rfl
          exact j_vret hx hq rfl (by decide) (by decide) dX12_readAny_43 ⟨rfl, rfl, hS_s22, (zFr_t (zFr_t (zFr_t zFr_rf hF_s1 (by decide)) hF_s3 (by decide)) hF_s22 (by decide)), ⟨by omega, by omega, by omega, by omega, by omega, (by have q1 : s22 (gP G a 31) = s3 (gP G a 31) := (by rw [hF_s22 (gP G a 31) (by rw [(zr (k := 31) (t2 := 88) hG ha rfl)]; decide)]); have q2 : s22 (gP G a 32) = s3 (gP G a 32) := (by rw [hF_s22 (gP G a 32) (by rw [(zr (k := 32) (t2 := 89) hG ha rfl)]; decide)]); rw [q1, q2]; exact (zNv_k fA18 (by omega) (by omega))), by omega, by omega, by omega, by omega, by omega, by omega, by omega, by omega⟩⟩
        · skip
          refine j_aload_n hx 0 dX12_readAny_24 rfl ?_
          have f73 := zf hS_s22 ha (k := 4) rfl
          have f74 := zf hS_s22 ha (k := 3) rfl
          have g75 : s22 (gP G a 9) (s22 a 4).toNat = s0 (gP G a 9) (s22 a 4).toNat := (by rw [(zFr_g hF_s22 (zr (k := 9) (t2 := 72) hG ha rfl) (by decide)), (zFr_g hF_s3 (zr (k := 9) (t2 := 72) hG ha rfl) (by decide)), (zFr_g hF_s1 (zr (k := 9) (t2 := 72) hG ha rfl) (by decide))])
          have f76 := zf hS_s22 ha (k := 0) rfl
          have f77 := zf hS_s22 ha (k := 5) rfl
          have f78 := zf hS_s22 ha (k := 7) rfl
          have f79 := zf hS_s22 ha (k := 21) rfl
          have f80 := zf hS_s22 ha (k := 22) rfl
          have f81 := zf hS_s22 ha (k := 23) rfl
          have f82 := zf hS_s22 ha (k := 24) rfl
          have f83 := zf hS_s22 ha (k := 38) rfl
          have f84 := zf hS_s22 ha (k := 51) rfl
          have f85 := zf hS_s22 ha (k := 52) rfl
          refine j_callV hx hG (c_X12_pass_h hst a) lk_RX12_256 ha (by decide) rfl rfl rfl rfl [] ⟨rfl, hG, hS_s22, ha, (by omega)⟩ rfl rfl ⟨by decide, by decide⟩ ⟨by decide, by decide⟩ (k2 := 0) (n2 := 0) rfl rfl (Nat.le_of_ble_eq_true rfl) dX12_readAny_25 (kVM (fun s23 hS_s23 hF_s23 q87 => ?_))
          refine j_aload_n hx 0 dX12_readAny_28 rfl ?_
          have f88 := zf hS_s23 ha (k := 7) rfl
          have f89 := zf hS_s23 ha (k := 3) rfl
          have f90 := zf hS_s23 ha (k := 4) rfl
          have f91 := zf hS_s23 ha (k := 5) rfl
          have f92 := zf hS_s23 ha (k := 38) rfl
          have g93 : (s23 (gP G a 31)) = (s3 (gP G a 31)) := by rw [hF_s23 (gP G a 31) (by rw [(zr (k := 31) (t2 := 88) hG ha rfl)]; decide), hF_s22 (gP G a 31) (by rw [(zr (k := 31) (t2 := 88) hG ha rfl)]; decide)]
          have g94 : zRp (s23 (gP G a 31)) 0 (s23 a 38).toNat = zRp (s3 (gP G a 31)) 0 (s3 a 38).toNat := by rw [g93, show s23 a 38 = s3 a 38 by omega]
          have f95 := zf hS_s23 ha (k := 0) rfl
          have f96 := zf hS_s23 ha (k := 21) rfl
          have f97 := zf hS_s23 ha (k := 22) rfl
          have f98 := zf hS_s23 ha (k := 23) rfl
          have f99 := zf hS_s23 ha (k := 24) rfl
          have f100 := zf hS_s23 ha (k := 51) rfl
          have f101 := zf hS_s23 ha (k := 52) rfl
          refine j_callV hx hG (c_X12_readAll_6 hst a) lk_RX12_272 ha (by decide) rfl rfl rfl rfl [] ⟨rfl, hG, hS_s23, ha, (by omega), (by omega), (by omega), (by omega), ((by have q1 : s23 (gP G a 31) = s3 (gP G a 31) := (by rw [hF_s23 (gP G a 31) (by rw [(zr (k := 31) (t2 := 88) hG ha rfl)]; decide), hF_s22 (gP G a 31) (by rw [(zr (k := 31) (t2 := 88) hG ha rfl)]; decide)]); have q2 : s23 (gP G a 32) = s3 (gP G a 32) := (by rw [hF_s23 (gP G a 32) (by rw [(zr (k := 32) (t2 := 89) hG ha rfl)]; decide), hF_s22 (gP G a 32) (by rw [(zr (k := 32) (t2 := 89) hG ha rfl)]; decide)]); rw [q1, q2]; exact (zNv_k fA18 (by omega) (by omega))))⟩ rfl rfl ⟨by decide, by decide⟩ ⟨by decide, by decide⟩ (k2 := 0) (n2 := 0) rfl rfl (Nat.le_of_ble_eq_true rfl) dX12_readAny_29 (kVM (fun s24 hS_s24 hF_s24 q103 => ?_))
          refine j_aload_n hx 0 dX12_readAny_32 rfl ?_
          refine j_bipush hx dX12_readAny_33 rfl ?_
          refine j_iconst hx dX12_readAny_35 ?_
          refine j_iconst hx dX12_readAny_36 ?_
          have f104 := zf hS_s24 ha (k := 5) rfl
          have f105 := zf hS_s24 ha (k := 38) rfl
          have f106 := zf hS_s24 ha (k := 0) rfl
          have f107 := zf hS_s24 ha (k := 3) rfl
          have f108 := zf hS_s24 ha (k := 4) rfl
          have f109 := zf hS_s24 ha (k := 21) rfl
          have f110 := zf hS_s24 ha (k := 22) rfl
          have f111 := zf hS_s24 ha (k := 23) rfl
          have f112 := zf hS_s24 ha (k := 24) rfl
          have f113 := zf hS_s24 ha (k := 51) rfl
          have f114 := zf hS_s24 ha (k := 52) rfl
          refine j_callV hx hG (c_X12_emit hst a 22 0 0) lk_RX12_277 ha (by decide) rfl rfl rfl rfl [.int (zI 22), .int (zI 0), .int (zI 0)] ⟨rfl, hG, hS_s24, ha, (by omega), (by omega), (by omega), (by omega), ((zNv_k q103.2.2.2.2.2.1 (by omega) (by omega))), (by omega)⟩ rfl rfl ⟨by decide, by decide⟩ ⟨by decide, by decide⟩ (k2 := 0) (n2 := 0) rfl rfl (Nat.le_of_ble_eq_true rfl) dX12_readAny_37 (kVM (fun s25 hS_s25 hF_s25 q116 => ?_))
          refine j_goto hx 4 dX12_readAny_40 rfl ?_
          have f117 := zf hS_s25 ha (k := 4) rfl
          have f118 := zf hS_s25 ha (k := 5) rfl
          have f119 := zf hS_s25 ha (k := 0) rfl
          have f120 := zf hS_s25 ha (k := 3) rfl
          have f121 := zf hS_s25 ha (k := 21) rfl
          have f122 := zf hS_s25 ha (k := 22) rfl
          have f123 := zf hS_s25 ha (k := 23) rfl
          have f124 := zf hS_s25 ha (k := 24) rfl
          have f125 := zf hS_s25 ha (k := 51) rfl
          have f126 := zf hS_s25 ha (k := 52) rfl
          have f127 := zf hS_s25 ha (k := 38) rfl
          have f128 := zf hS_s25 ha (k := 7) rfl
          exact j_sub [0] [(0, .ref a)] rfl (ih_c4_2 s25 (by omega) hS_s25 (zFr_t (zFr_t (zFr_t (zFr_t (zFr_t zFr_rf hF_s3 (by decide)) hF_s22 (by decide)) hF_s23 (by decide)) hF_s24 (by decide)) hF_s25 (by decide)) (by omega) (by omega) (by omega) (by omega) (by omega) (by omega) (by omega) (by omega) (by omega) (by omega) (by omega) (by omega) (zNv_k q116.2.1 (by omega) (by omega)) (by omega) (by omega) (by omega))
  exact j_sub [0] [(0, .ref a)] rfl (c4_2 (2147483648 * 4) s1 (by omega) hS_s1 zFr_rf (by omega) (by omega) (by omega) (by omega) (by omega) (by omega) (by omega) (by omega) (by omega) (by omega) (by omega) (by omega) (zNv_k q15.2.2.2.2.2.1 (by omega) (by omega)) (by omega) (by omega) (by omega))
