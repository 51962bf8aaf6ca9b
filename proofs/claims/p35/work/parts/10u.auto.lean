set_option maxHeartbeats 1200000 in
set_option maxRecDepth 20000 in
theorem c_X12_fine_n {E : zE} {l : Launch} (hst : l.stackTraces = false) (a : Nat) : Con E l yX12_fine cX12_fine 1 (some .boolean) { frames := 0, cells := 0, slots := 0, locals := 0 } (fun G s vs => vs = [.ref a] ∧ zGK G ∧ zSK G s ∧ (gT G a = 13) ∧ (0 ≤ s a 5)) (fun G s _ => pI (fun r G2 s2 => G2 = G ∧ s2 = s ∧ (0 ≤ r ∧ r ≤ 0))) := by
  refine Con.mk hst (by decide) (fun G s vs h => by rw [h.1]; exact Nat.le_of_ble_eq_true rfl) ?_
  rintro X G s0 vs ⟨rfl, hG, hS0, ha, e0⟩ rfl hx hq
  show JJ X E 1 G s0 0 0 [(0, .ref a)] 0 []
  refine j_aload_n hx 0 dX12_fine_0 rfl ?_
  have f1 := zf hS0 ha (k := 5) rfl
  refine g13_5 hx hG ha kf_RX12_137 rfl dX12_fine_1 ?_
  refine j_iconst hx dX12_fine_4 ?_
  refine j_icmp_ne hx 12 dX12_fine_5 rfl (by omega) ⟨by decide, by decide⟩ (fun h2 => ?_) (fun h2 => ?_)
  · skip
    refine j_iconst hx dX12_fine_12 ?_
    exact j_zret hx hq rfl (by decide) (by decide) dX12_fine_13 (by omega) ⟨0, rfl, rfl, rfl, (by omega)⟩
  · skip
    refine j_iconst hx dX12_fine_8 ?_
    refine j_goto hx 13 dX12_fine_9 rfl ?_
    exact j_zret hx hq rfl (by decide) (by decide) dX12_fine_13 (by omega) ⟨1, rfl, rfl, rfl, (by omega)⟩

set_option maxHeartbeats 1200000 in
set_option maxRecDepth 20000 in
theorem c_X12_readOne_7 {E : zE} {l : Launch} (hst : l.stackTraces = false) (a : Nat) : Con E l yX12_readOne cX12_readOne 4 none { frames := 1, cells := 0, slots := 0, locals := 20 } (fun G s vs => vs = [.ref a] ∧ zGK G ∧ zSK G s ∧ (gT G a = 13) ∧ (s a 7 = 7) ∧ (s a 3 ≤ 150) ∧ (s a 4 ≤ s a 3 + 2) ∧ (s a 5 = -1 → s a 38 ≤ s a 4) ∧ (zNv (s a 5) (s (gP G a 31)) (s (gP G a 32)) (s a 38)) ∧ (0 ≤ s a 5)) (fun G s _ => pV (fun G2 s2 => G2 = G ∧ zSK G s2 ∧ zFr [] G s s2 ∧ s a 4 ≤ s2 a 4 ∧ s a 5 ≤ s2 a 5 ∧ s2 a 4 ≤ s a 3 + 2 ∧ s2 a 7 = 7 ∧ (s2 a 5 = -1 → (zRp (s2 (gP G a 31)) 0 (s2 a 38).toNat = zRp (s (gP G a 31)) 0 (s a 38).toNat + 1 ∧ s a 38 + 1 ≤ s2 a 38 ∧ s2 a 38 - s a 38 ≤ s2 a 4 - s a 4 ∧ s2 a 4 ≤ s a 3)) ∧ zNv (s2 a 5) (s2 (gP G a 31)) (s2 (gP G a 32)) (s2 a 38))) := by
  refine Con.mk hst (by decide) (fun G s vs h => by rw [h.1]; exact Nat.le_of_ble_eq_true rfl) ?_
  rintro X G s0 vs ⟨rfl, hG, hS0, ha, e0, e1, e2, e3, e4, e5⟩ rfl hx hq
  show JJ X E 4 G s0 0 0 [(0, .ref a)] 0 []
  have z1 : s0 a 5 = -1 → 0 ≤ zRp (s0 (gP G a 31)) 0 (s0 a 38).toNat := fun h => zRv_nn (e4 h)
  have z2 : tOf 9 = 1451365 := by decide +kernel
  have z3 : tOf 10 = 435653 := by decide +kernel
  have z4 : tOf 12 = 20976 := by decide +kernel
  have z5 : tOf 13 = 463922 := by decide +kernel
  have z6 : tOf 11 = 375287 := by decide +kernel
  have z7 : tOf 14 = 267312 := by decide +kernel
  have z8 : tOf 2 = 18935 := by decide +kernel
  have z9 : tOf 7 = 540140 := by decide +kernel
  have z10 : tOf 15 = 677454 := by decide +kernel
  have z11 : tOf 8 = 14836 := by decide +kernel
  refine j_aload_n hx 0 dX12_readOne_0 rfl ?_
  have f12 := zf hS0 ha (k := 5) rfl
  refine j_callV hx hG (c_X12_fine_n hst a) lk_RX12_166 ha (by decide) rfl rfl rfl rfl [] ⟨rfl, hG, hS0, ha, (by omega)⟩ rfl rfl ⟨by decide, by decide⟩ ⟨by decide, by decide⟩ (k2 := 0) (n2 := 0) rfl rfl (Nat.le_of_ble_eq_true rfl) dX12_readOne_1 (kIP (fun v13 q14 => ?_))
  refine j_if_ne hx 8 dX12_readOne_4 rfl (by omega) (fun h15 => absurd h15 (by omega)) (fun h15 => ?_)
  have f16 := zf hS0 ha (k := 4) rfl
  have f17 := zf hS0 ha (k := 3) rfl
  have f18 := zf hS0 ha (k := 38) rfl
  exact j_vret hx hq rfl (by decide) (by decide) dX12_readOne_7 ⟨rfl, rfl, hS0, zFr_rf, ⟨by omega, by omega, by omega, by omega, by omega, (zNv_k e4 (by omega) (by omega))⟩⟩

theorem lk_RX12_281 : LkV RX12 281 RX12 yX12_readOne cX12_readOne 4 none 0 := ⟨km_RX12_281, ki_yX12_readOne, ks_RX12_yX12_readOne, kn_RX12, kc_yX12_readOne, rfl, by decide +kernel, by decide +kernel, by decide +kernel⟩
set_option maxHeartbeats 1200000 in
set_option maxRecDepth 20000 in
theorem c_X12_readAll_7 {E : zE} {l : Launch} (hst : l.stackTraces = false) (a : Nat) : Con E l yX12_readAll cX12_readAll 1 none { frames := 2, cells := 0, slots := 0, locals := 43 } (fun G s vs => vs = [.ref a] ∧ zGK G ∧ zSK G s ∧ (gT G a = 13) ∧ (s a 7 = 7) ∧ (s a 3 ≤ 150) ∧ (s a 4 ≤ s a 3 + 2) ∧ (s a 5 = -1 → s a 38 ≤ s a 4) ∧ (zNv (s a 5) (s (gP G a 31)) (s (gP G a 32)) (s a 38)) ∧ (0 ≤ s a 5)) (fun G s _ => pV (fun G2 s2 => G2 = G ∧ zSK G s2 ∧ zFr [] G s s2 ∧ s a 4 ≤ s2 a 4 ∧ s a 5 ≤ s2 a 5 ∧ s2 a 4 ≤ s a 3 + 2 ∧ s2 a 7 = 7 ∧ (s2 a 5 = -1 → (zRp (s2 (gP G a 31)) 0 (s2 a 38).toNat = zRp (s (gP G a 31)) 0 (s a 38).toNat + 1 ∧ s a 38 + 1 ≤ s2 a 38 ∧ s2 a 38 - s a 38 ≤ s2 a 4 - s a 4 ∧ s2 a 4 ≤ s a 3)) ∧ zNv (s2 a 5) (s2 (gP G a 31)) (s2 (gP G a 32)) (s2 a 38))) := by
  refine Con.mk hst (by decide) (fun G s vs h => by rw [h.1]; exact Nat.le_of_ble_eq_true rfl) ?_
  rintro X G s0 vs ⟨rfl, hG, hS0, ha, e0, e1, e2, e3, e4, e5⟩ rfl hx hq
  show JJ X E 1 G s0 0 0 [(0, .ref a)] 0 []
  have z1 : s0 a 5 = -1 → 0 ≤ zRp (s0 (gP G a 31)) 0 (s0 a 38).toNat := fun h => zRv_nn (e4 h)
  have z2 : tOf 16 = 1476 := by decide +kernel
  refine j_aload_n hx 0 dX12_readAll_0 rfl ?_
  have f3 := zf hS0 ha (k := 3) rfl
  have f4 := zf hS0 ha (k := 4) rfl
  have f5 := zf hS0 ha (k := 5) rfl
  have f6 := zf hS0 ha (k := 38) rfl
  refine j_callV hx hG (c_X12_readOne_7 hst a) lk_RX12_281 ha (by decide) rfl rfl rfl rfl [] ⟨rfl, hG, hS0, ha, (by omega), (by omega), (by omega), (by omega), ((zNv_k e4 (by omega) (by omega))), (by omega)⟩ rfl rfl ⟨by decide, by decide⟩ ⟨by decide, by decide⟩ (k2 := 0) (n2 := 0) rfl rfl (Nat.le_of_ble_eq_true rfl) dX12_readAll_1 (kVM (fun s1 hS_s1 hF_s1 q8 => ?_))
  refine j_aload_n hx 0 dX12_readAll_4 rfl ?_
  have g9 : s1 a 5 = s0 a 5 := (by rw [(zFr_g hF_s1 ha (by decide))])
  refine j_callV hx hG (c_X12_fine_n hst a) lk_RX12_166 ha (by decide) rfl rfl rfl rfl [] ⟨rfl, hG, hS_s1, ha, (by omega)⟩ rfl rfl ⟨by decide, by decide⟩ ⟨by decide, by decide⟩ (k2 := 0) (n2 := 0) rfl rfl (Nat.le_of_ble_eq_true rfl) dX12_readAll_5 (kIP (fun v10 q11 => ?_))
  refine j_if_eq hx 43 dX12_readAll_8 rfl (by omega) (fun h12 => ?_) (fun h12 => absurd h12 (by omega))
  have g13 : s1 a 4 = s0 a 4 := (by rw [(zFr_g hF_s1 ha (by decide))])
  have g14 : s1 a 7 = s0 a 7 := (by rw [(zFr_g hF_s1 ha (by decide))])
  have g15 : s1 a 38 = s0 a 38 := (by rw [(zFr_g hF_s1 ha (by decide))])
  have g16 : (s1 (gP G a 31)) = (s0 (gP G a 31)) := by rw [hF_s1 (gP G a 31) (by rw [(zr (k := 31) (t2 := 88) hG ha rfl)]; decide)]
  have g17 : zRp (s1 (gP G a 31)) 0 (s1 a 38).toNat = zRp (s0 (gP G a 31)) 0 (s0 a 38).toNat := by rw [g16, show s1 a 38 = s0 a 38 by omega]
  exact j_vret hx hq rfl (by decide) (by decide) dX12_readAll_43 ⟨rfl, rfl, hS_s1, (zFr_t zFr_rf hF_s1 (by decide)), ⟨by omega, by omega, by omega, by omega, by omega, (zNv_k q8.2.2.2.2.2 (by omega) (by omega))⟩⟩

theorem lk_RX12_272 : LkV RX12 272 RX12 yX12_readAll cX12_readAll 1 none 0 := ⟨km_RX12_272, ki_yX12_readAll, ks_RX12_yX12_readAll, kn_RX12, kc_yX12_readAll, rfl, by decide +kernel, by decide +kernel, by decide +kernel⟩
set_option maxHeartbeats 1200000 in
set_option maxRecDepth 20000 in
theorem c_X12_readAny_7 {E : zE} {l : Launch} (hst : l.stackTraces = false) (a : Nat) : Con E l yX12_readAny cX12_readAny 1 none { frames := 3, cells := 0, slots := 0, locals := 63 } (fun G s vs => vs = [.ref a] ∧ zGK G ∧ zSK G s ∧ (gT G a = 13) ∧ (s a 7 = 7) ∧ (s a 3 ≤ 150) ∧ (s a 4 ≤ s a 3 + 2) ∧ (s a 5 = -1 → s a 38 ≤ s a 4) ∧ (zNv (s a 5) (s (gP G a 31)) (s (gP G a 32)) (s a 38)) ∧ (0 ≤ s a 5)) (fun G s _ => pV (fun G2 s2 => G2 = G ∧ zSK G s2 ∧ zFr [] G s s2 ∧ s a 4 ≤ s2 a 4 ∧ s a 5 ≤ s2 a 5 ∧ s2 a 4 ≤ s a 3 + 2 ∧ s2 a 7 = 7 ∧ (s2 a 5 = -1 → (zRp (s2 (gP G a 31)) 0 (s2 a 38).toNat = zRp (s (gP G a 31)) 0 (s a 38).toNat + 1 ∧ s a 38 + 1 ≤ s2 a 38 ∧ s2 a 38 - s a 38 ≤ s2 a 4 - s a 4 ∧ s2 a 4 ≤ s a 3)) ∧ zNv (s2 a 5) (s2 (gP G a 31)) (s2 (gP G a 32)) (s2 a 38))) := by
  refine Con.mk hst (by decide) (fun G s vs h => by rw [h.1]; exact Nat.le_of_ble_eq_true rfl) ?_
  rintro X G s0 vs ⟨rfl, hG, hS0, ha, e0, e1, e2, e3, e4, e5⟩ rfl hx hq
  show JJ X E 1 G s0 0 0 [(0, .ref a)] 0 []
  have z1 : s0 a 5 = -1 → 0 ≤ zRp (s0 (gP G a 31)) 0 (s0 a 38).toNat := fun h => zRv_nn (e4 h)
  have z2 : tOf 17 = 498 := by decide +kernel
  refine j_aload_n hx 0 dX12_readAny_0 rfl ?_
  have f3 := zf hS0 ha (k := 3) rfl
  have f4 := zf hS0 ha (k := 4) rfl
  have f5 := zf hS0 ha (k := 5) rfl
  have f6 := zf hS0 ha (k := 38) rfl
  refine j_callV hx hG (c_X12_readAll_7 hst a) lk_RX12_272 ha (by decide) rfl rfl rfl rfl [] ⟨rfl, hG, hS0, ha, (by omega), (by omega), (by omega), (by omega), ((zNv_k e4 (by omega) (by omega))), (by omega)⟩ rfl rfl ⟨by decide, by decide⟩ ⟨by decide, by decide⟩ (k2 := 0) (n2 := 0) rfl rfl (Nat.le_of_ble_eq_true rfl) dX12_readAny_1 (kVM (fun s1 hS_s1 hF_s1 q8 => ?_))
  refine j_aload_n hx 0 dX12_readAny_4 rfl ?_
  have g9 : s1 a 5 = s0 a 5 := (by rw [(zFr_g hF_s1 ha (by decide))])
  refine j_callV hx hG (c_X12_fine_n hst a) lk_RX12_166 ha (by decide) rfl rfl rfl rfl [] ⟨rfl, hG, hS_s1, ha, (by omega)⟩ rfl rfl ⟨by decide, by decide⟩ ⟨by decide, by decide⟩ (k2 := 0) (n2 := 0) rfl rfl (Nat.le_of_ble_eq_true rfl) dX12_readAny_5 (kIP (fun v10 q11 => ?_))
  refine j_if_eq hx 43 dX12_readAny_8 rfl (by omega) (fun h12 => ?_) (fun h12 => absurd h12 (by omega))
  have g13 : s1 a 4 = s0 a 4 := (by rw [(zFr_g hF_s1 ha (by decide))])
  have g14 : s1 a 7 = s0 a 7 := (by rw [(zFr_g hF_s1 ha (by decide))])
  have g15 : s1 a 38 = s0 a 38 := (by rw [(zFr_g hF_s1 ha (by decide))])
  have g16 : (s1 (gP G a 31)) = (s0 (gP G a 31)) := by rw [hF_s1 (gP G a 31) (by rw [(zr (k := 31) (t2 := 88) hG ha rfl)]; decide)]
  have g17 : zRp (s1 (gP G a 31)) 0 (s1 a 38).toNat = zRp (s0 (gP G a 31)) 0 (s0 a 38).toNat := by rw [g16, show s1 a 38 = s0 a 38 by omega]
  exact j_vret hx hq rfl (by decide) (by decide) dX12_readAny_43 ⟨rfl, rfl, hS_s1, (zFr_t zFr_rf hF_s1 (by decide)), ⟨by omega, by omega, by omega, by omega, by omega, (zNv_k q8.2.2.2.2.2 (by omega) (by omega))⟩⟩

set_option maxHeartbeats 1200000 in
set_option maxRecDepth 20000 in
theorem c_X12_word_h {E : zE} {l : Launch} (hst : l.stackTraces = false) (a : Nat) : Con E l yX12_word cX12_word 4 (some .int) { frames := 1, cells := 0, slots := 0, locals := 20 } (fun G s vs => vs = [.ref a] ∧ zGK G ∧ zSK G s ∧ (gT G a = 13) ∧ (s a 4 ≤ s a 3 + 2)) (fun G s _ => pI (fun r G2 s2 => G2 = G ∧ zSK G s2 ∧ zFr [13] G s s2 ∧ ((-2147483648) ≤ r ∧ r ≤ 2147483647) ∧ s a 4 ≤ s2 a 4 ∧ s2 a 4 ≤ s a 3 + 2 ∧ (r ≠ 0 → (s2 a 4 < s a 3 ∧ 97 ≤ s2 (gP G a 9) (s2 a 4).toNat ∧ s2 (gP G a 9) (s2 a 4).toNat ≤ 122)) ∧ (s a 4 ≤ s a 3 → s2 a 4 ≤ s a 3) ∧ s2 a 0 = s a 0 ∧ s2 a 3 = s a 3 ∧ s2 a 5 = s a 5 ∧ s2 a 7 = s a 7 ∧ s2 a 21 = s a 21 ∧ s2 a 22 = s a 22 ∧ s2 a 23 = s a 23 ∧ s2 a 24 = s a 24 ∧ s2 a 38 = s a 38 ∧ s2 a 51 = s a 51 ∧ s2 a 52 = s a 52)) := by
  refine Con.mk hst (by decide) (fun G s vs h => by rw [h.1]; exact Nat.le_of_ble_eq_true rfl) ?_
  rintro X G s0 vs ⟨rfl, hG, hS0, ha, e0⟩ rfl hx hq
  show JJ X E 4 G s0 0 0 [(0, .ref a)] 0 []
  refine j_aload_n hx 0 dX12_word_0 rfl ?_
  have f1 := zf hS0 ha (k := 4) rfl
  have f2 := zf hS0 ha (k := 3) rfl
  have f3 := zf hS0 ha (k := 0) rfl
  have f4 := zf hS0 ha (k := 5) rfl
  have f5 := zf hS0 ha (k := 7) rfl
  have f6 := zf hS0 ha (k := 21) rfl
  have f7 := zf hS0 ha (k := 22) rfl
  have f8 := zf hS0 ha (k := 23) rfl
  have f9 := zf hS0 ha (k := 24) rfl
  have f10 := zf hS0 ha (k := 38) rfl
  have f11 := zf hS0 ha (k := 51) rfl
  have f12 := zf hS0 ha (k := 52) rfl
  refine j_callV hx hG (c_X12_here_h hst a) lk_RX12_149 ha (by decide) rfl rfl rfl rfl [] ⟨rfl, hG, hS0, ha, (by omega)⟩ rfl rfl ⟨by decide, by decide⟩ ⟨by decide, by decide⟩ (k2 := 0) (n2 := 0) rfl rfl (Nat.le_of_ble_eq_true rfl) dX12_word_1 (kIM (fun v13 s1 hS_s1 hF_s1 q14 => ?_))
  refine j_pop hx dX12_word_4 rfl ?_
  refine j_iconst hx dX12_word_5 ?_
  refine j_istore_n hx [(1, .int (zI 0)), (0, .ref a)] dX12_word_6 (by decide) rfl ?_
  refine j_iconst hx dX12_word_7 ?_
  refine j_istore_n hx [(2, .int (zI 0)), (1, .int (zI 0)), (0, .ref a)] dX12_word_8 (by decide) rfl ?_
  refine j_aload_n hx 2 dX12_word_9 rfl ?_
  have f15 := zf hS_s1 ha (k := 4) rfl
  refine g13_4 hx hG ha kf_RX12_143 rfl dX12_word_10 ?_
  refine j_istore_n hx [(3, .int (zI ((s1 a 4)))), (2, .int (zI 0)), (1, .int (zI 0)), (0, .ref a)] dX12_word_13 (by decide) rfl ?_
  have c14_2 : ∀ (m_c14_2 : Nat) (v16 : Int) (v17 : Int) (v18 : Int), 2147483648 - v18 < m_c14_2 → ((-2147483648) ≤ v16 ∧ v16 ≤ 2147483647) → (0 ≤ v17 ∧ v17 ≤ 700) → (0 ≤ v18 ∧ v18 ≤ 700) → (v17 = 0 → v16 = 0) → (v17 = 0 ∨ (s1 a 4 < s1 a 3 ∧ 97 ≤ s1 (gP G a 9) (s1 a 4).toNat ∧ s1 (gP G a 9) (s1 a 4).toNat ≤ 122)) → (v18 = s1 a 4 + v17) → JJ X E 4 G s1 0 0 [(0, .ref a), (1, .int (zI v16)), (2, .int (zI v17)), (3, .int (zI v18))] 14 [] := by
    intro m_c14_2
    induction m_c14_2 with
    | zero => intro v16 v17 v18 hm_c14_2 fA3 fA4 fA5 fA6 fA7 fA8; exfalso; omega
    | succ m_c14_2 ih_c14_2 => 
      intro v16 v17 v18 hm_c14_2 fA3 fA4 fA5 fA6 fA7 fA8
      refine j_iload_n hx 3 dX12_word_14 rfl ?_
      refine j_aload_n hx 0 dX12_word_15 rfl ?_
      have f19 := zf hS_s1 ha (k := 3) rfl
      refine g13_3 hx hG ha kf_RX12_146 rfl dX12_word_16 ?_
      have c67_9 : JJ X E 4 G s1 0 0 [(1, .int (zI v16)), (2, .int (zI v17))] 67 [] := by
        refine j_iload_n hx 1 dX12_word_67 rfl ?_
        refine j_bipush hx dX12_word_68 rfl ?_
        refine j_icmp_le hx 77 dX12_word_70 rfl (by omega) ⟨by decide, by decide⟩ (fun h20 => ?_) (fun h20 => ?_)
        · skip
          refine j_iload_n hx 0 dX12_word_77 rfl ?_
          have g21 : s1 (gP G a 9) (s1 a 4).toNat = s0 (gP G a 9) (s1 a 4).toNat := (by rw [(zFr_g hF_s1 (zr (k := 9) (t2 := 72) hG ha rfl) (by decide))])
          have f22 := zf hS_s1 ha (k := 0) rfl
          have f23 := zf hS_s1 ha (k := 5) rfl
          have f24 := zf hS_s1 ha (k := 7) rfl
          have f25 := zf hS_s1 ha (k := 21) rfl
          have f26 := zf hS_s1 ha (k := 22) rfl
          have f27 := zf hS_s1 ha (k := 23) rfl
          have f28 := zf hS_s1 ha (k := 24) rfl
          have f29 := zf hS_s1 ha (k := 38) rfl
          have f30 := zf hS_s1 ha (k := 51) rfl
          have f31 := zf hS_s1 ha (k := 52) rfl
          exact j_iret hx hq rfl (by decide) (by decide) dX12_word_78 ⟨v16, rfl, rfl, hS_s1, (zFr_t zFr_rf hF_s1 (by decide)), ⟨(by omega), by omega, by omega, by omega, by omega, by omega, by omega, by omega, by omega, by omega, by omega, by omega, by omega, by omega, by omega, by omega⟩⟩
        · skip
          refine j_iconst hx dX12_word_73 ?_
          refine j_goto hx 78 dX12_word_74 rfl ?_
          have g32 : s1 (gP G a 9) (s1 a 4).toNat = s0 (gP G a 9) (s1 a 4).toNat := (by rw [(zFr_g hF_s1 (zr (k := 9) (t2 := 72) hG ha rfl) (by decide))])
          have f33 := zf hS_s1 ha (k := 0) rfl
          have f34 := zf hS_s1 ha (k := 5) rfl
          have f35 := zf hS_s1 ha (k := 7) rfl
          have f36 := zf hS_s1 ha (k := 21) rfl
          have f37 := zf hS_s1 ha (k := 22) rfl
          have f38 := zf hS_s1 ha (k := 23) rfl
          have f39 := zf hS_s1 ha (k := 24) rfl
          have f40 := zf hS_s1 ha (k := 38) rfl
          have f41 := zf hS_s1 ha (k := 51) rfl
          have f42 := zf hS_s1 ha (k := 52) rfl
          exact j_iret hx hq rfl (by decide) (by decide) dX12_word_78 ⟨0, rfl, rfl, hS_s1, (zFr_t zFr_rf hF_s1 (by decide)), ⟨(by omega), by omega, by omega, by omega, by omega, by omega, by omega, by omega, by omega, by omega, by omega, by omega, by omega, by omega, by omega, by omega⟩⟩
      refine j_icmp_ge hx 67 dX12_word_19 rfl (by omega) (by omega) (fun h43 => ?_) (fun h43 => ?_)
      · skip
        exact j_sub [1, 2] [(1, .int (zI v16)), (2, .int (zI v17))] rfl (c67_9  )
      · skip
        refine j_aload_n hx 0 dX12_word_22 rfl ?_
        refine g13_9 hx hG ha kf_RX12_20 dX12_word_23 ?_
        refine j_iload_n hx 3 dX12_word_26 rfl ?_
        have f44 := zaI (j := (v18).toNat) hS0 (zr (k := 9) (t2 := 72) hG ha rfl) rfl (zlen hG (zr (k := 9) (t2 := 72) hG ha rfl) (n := 600) rfl rfl) (show 0 ≤ v18 by omega) (by omega) rfl
        refine j_iald hx hG (zr (k := 9) (t2 := 72) hG ha rfl) (by decide) rfl (zlen hG (zr (k := 9) (t2 := 72) hG ha rfl) (n := 600) rfl rfl) (by omega) (by omega) (j := (v18).toNat) rfl (v := (s0 (gP G a 9) (v18).toNat)) (by rw [(zFr_g hF_s1 (zr (k := 9) (t2 := 72) hG ha rfl) (by decide))]) dX12_word_27 ?_
        refine j_callS hx (c_X12_isSmall hst ((s0 (gP G a 9) (v18).toNat))) lk_RX12_153 [.int (zI ((s0 (gP G a 9) (v18).toNat)))] ⟨rfl, hG, hS_s1, (by omega)⟩ rfl rfl ⟨by decide, by decide⟩ ⟨by decide, by decide⟩ (k2 := 0) (n2 := 0) rfl rfl (Nat.le_of_ble_eq_true rfl) dX12_word_28 (kIP (fun v45 q46 => ?_))
        refine j_if_eq hx 67 dX12_word_31 rfl (by omega) (fun h47 => ?_) (fun h47 => ?_)
        · skip
          exact j_sub [1, 2] [(1, .int (zI v16)), (2, .int (zI v17))] rfl (c67_9  )
        · skip
          have g48 : s1 (gP G a 9) (v18).toNat = s0 (gP G a 9) (v18).toNat := (by rw [(zFr_g hF_s1 (zr (k := 9) (t2 := 72) hG ha rfl) (by decide))])
          have g49 : s1 (gP G a 9) (s1 a 4).toNat = s0 (gP G a 9) (s1 a 4).toNat := (by rw [(zFr_g hF_s1 (zr (k := 9) (t2 := 72) hG ha rfl) (by decide))])
          have z50 : v18 = s1 a 4 → s1 (gP G a 9) (v18).toNat = s1 (gP G a 9) (s1 a 4).toNat := fun h => by rw [h]
          refine j_iload_n hx 2 dX12_word_34 rfl ?_
          refine j_bipush hx dX12_word_35 rfl ?_
          have c57_10 : ∀ (v51 : Int), ((-2147483648) ≤ v51 ∧ v51 ≤ 2147483647) → JJ X E 4 G s1 0 0 [(0, .ref a), (2, .int (zI v17)), (3, .int (zI v18))] 57 [.int (zI v51)] := by
            intro v51 fA11
            refine j_istore_n hx [(1, .int (zI v51)), (0, .ref a), (2, .int (zI v17)), (3, .int (zI v18))] dX12_word_57 (by decide) rfl ?_
            refine j_iinc hx 2 [(2, .int (zI (v17 + 1))), (1, .int (zI v51)), (0, .ref a), (3, .int (zI v18))] dX12_word_58 rfl (by omega) (by decide) rfl ?_
            refine j_iinc hx 3 [(3, .int (zI (v18 + 1))), (2, .int (zI (v17 + 1))), (1, .int (zI v51)), (0, .ref a)] dX12_word_61 rfl (by omega) (by decide) rfl ?_
            refine j_goto hx 14 dX12_word_64 rfl ?_
            exact j_sub [3, 2, 1, 0] [(0, .ref a), (1, .int (zI v51)), (2, .int (zI (v17 + 1))), (3, .int (zI (v18 + 1)))] rfl (ih_c14_2 v51 (v17 + 1) (v18 + 1) (by omega) (by omega) (by omega) (by omega) (by omega) (by omega) (by omega))
          refine j_icmp_ge hx 56 dX12_word_37 rfl (by omega) ⟨by decide, by decide⟩ (fun h52 => ?_) (fun h52 => ?_)
          · skip
            refine j_iconst hx dX12_word_56 ?_
            exact j_sub [0, 2, 3] [(0, .ref a), (2, .int (zI v17)), (3, .int (zI v18))] rfl (c57_10 0 (by omega))
          · skip
            refine j_iload_n hx 1 dX12_word_40 rfl ?_
            refine j_iconst hx dX12_word_41 ?_
            refine j_ishl hx dX12_word_42 (fun v53 f54 f55 => ?_)
            refine j_aload_n hx 0 dX12_word_43 rfl ?_
            refine g13_9 hx hG ha kf_RX12_20 dX12_word_44 ?_
            refine j_iload_n hx 3 dX12_word_47 rfl ?_
            refine j_iald hx hG (zr (k := 9) (t2 := 72) hG ha rfl) (by decide) rfl (zlen hG (zr (k := 9) (t2 := 72) hG ha rfl) (n := 600) rfl rfl) (by omega) (by omega) (j := (v18).toNat) rfl (v := (s0 (gP G a 9) (v18).toNat)) (by rw [(zFr_g hF_s1 (zr (k := 9) (t2 := 72) hG ha rfl) (by decide))]) dX12_word_48 ?_
            refine j_bipush hx dX12_word_49 rfl ?_
            refine j_isub hx (r := (s0 (gP G a 9) (v18).toNat) - 96) dX12_word_51 (by omega) ?_
            refine j_ior hx dX12_word_52 (fun v56 f57 f58 => ?_)
            refine j_goto hx 57 dX12_word_53 rfl ?_
            exact j_sub [0, 2, 3] [(0, .ref a), (2, .int (zI v17)), (3, .int (zI v18))] rfl (c57_10 v56 (by omega))
  exact j_sub [3, 2, 1, 0] [(0, .ref a), (1, .int (zI 0)), (2, .int (zI 0)), (3, .int (zI ((s1 a 4))))] rfl (c14_2 (2147483648 * 4) 0 0 ((s1 a 4)) (by omega) (by omega) (by omega) (by omega) (by omega) (by omega) (by omega))
