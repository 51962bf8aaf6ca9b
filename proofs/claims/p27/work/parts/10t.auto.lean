set_option maxHeartbeats 1200000 in
set_option maxRecDepth 20000 in
theorem c_X12_fine_n {E : zE} {l : Launch} (hst : l.stackTraces = false) (a : Nat) : Con E l yX12_fine cX12_fine 1 (some .boolean) { frames := 0, cells := 0, slots := 0, locals := 0 } (fun G s vs => vs = [.ref a] ∧ zGK G ∧ zSK G s ∧ (gT G a = 13) ∧ (0 ≤ s a 5)) (fun G s _ => pI (fun r G2 s2 => G2 = G ∧ s2 = s ∧ (0 ≤ r ∧ r ≤ 0))) := by
  refine Con.mk hst (by decide) (fun G s vs h => by rw [h.1]; exact Nat.le_of_ble_eq_true rfl) ?_
  rintro X G s0 vs ⟨rfl, hG, hS0, ha, e0⟩ rfl hx hq
  show JJ X E 1 G s0 0 0 [(0, .ref a)] 0 []
  refine j_aload_n hx 0 dX12_fine_0 rfl ?_
  have f1 := zf hS0 ha (k := 5) rfl
  refine g13_5 hx hG ha kf_RX12_137 rfl dX12_fine_1 ?_
  refine j_iconst hx dX12_fine_4 ?_
  refine j_icmp_ne hx 12 dX12_fine_5 rfl (by omega) ⟨by decide, by decide⟩ (fun h2 => ?_) (fun h2 => ?_)
  · skip
    refine j_iconst hx dX12_fine_12 ?_
    exact j_zret hx hq rfl (by decide) (by decide) dX12_fine_13 (by omega) ⟨0, rfl, rfl, rfl, (by omega)⟩
  · skip
    refine j_iconst hx dX12_fine_8 ?_
    refine j_goto hx 13 dX12_fine_9 rfl ?_
    exact j_zret hx hq rfl (by decide) (by decide) dX12_fine_13 (by omega) ⟨1, rfl, rfl, rfl, (by omega)⟩

set_option maxHeartbeats 1200000 in
set_option maxRecDepth 20000 in
theorem c_X12_readOne_7 {E : zE} {l : Launch} (hst : l.stackTraces = false) (a : Nat) : Con E l yX12_readOne cX12_readOne 4 none { frames := 1, cells := 0, slots := 0, locals := 20 } (fun G s vs => vs = [.ref a] ∧ zGK G ∧ zSK G s ∧ (gT G a = 13) ∧ (s a 7 = 7) ∧ (s a 3 ≤ 150) ∧ (s a 4 ≤ s a 3 + 2) ∧ (s a 5 = -1 → s a 38 ≤ s a 4) ∧ (zNv (s a 5) (s (gP G a 31)) (s (gP G a 32)) (s a 38)) ∧ (0 ≤ s a 5)) (fun G s _ => pV (fun G2 s2 => G2 = G ∧ zSK G s2 ∧ zFr [] G s s2 ∧ s a 4 ≤ s2 a 4 ∧ s a 5 ≤ s2 a 5 ∧ s2 a 4 ≤ s a 3 + 2 ∧ s2 a 7 = 7 ∧ (s2 a 5 = -1 → (zRp (s2 (gP G a 31)) 0 (s2 a 38).toNat = zRp (s (gP G a 31)) 0 (s a 38).toNat + 1 ∧ s a 38 + 1 ≤ s2 a 38 ∧ s2 a 38 - s a 38 ≤ s2 a 4 - s a 4 ∧ s2 a 4 ≤ s a 3)) ∧ zNv (s2 a 5) (s2 (gP G a 31)) (s2 (gP G a 32)) (s2 a 38))) := by
  refine Con.mk hst (by decide) (fun G s vs h => by rw [h.1]; exact Nat.le_of_ble_eq_true rfl) ?_
  rintro X G s0 vs ⟨rfl, hG, hS0, ha, e0, e1, e2, e3, e4, e5⟩ rfl hx hq
  show JJ X E 4 G s0 0 0 [(0, .ref a)] 0 []
  refine j_aload_n hx 0 dX12_readOne_0 rfl ?_
  have f1 := zf hS0 ha (k := 5) rfl
  refine j_callV hx hG (c_X12_fine_n hst a) lk_RX12_166 ha (by decide) rfl rfl rfl rfl [] ⟨rfl, hG, hS0, ha, (by omega)⟩ rfl rfl ⟨by decide, by decide⟩ ⟨by decide, by decide⟩ (k2 := 0) (n2 := 0) rfl rfl (Nat.le_of_ble_eq_true rfl) dX12_readOne_1 (kIP (fun v2 q3 => ?_))
  refine j_if_ne hx 8 dX12_readOne_4 rfl (by omega) (fun h4 => absurd h4 (by omega)) (fun h4 => ?_)
  have f5 := zf hS0 ha (k := 4) rfl
  have f6 := zf hS0 ha (k := 3) rfl
  have f7 := zf hS0 ha (k := 38) rfl
  exact j_vret hx hq rfl (by decide) (by decide) dX12_readOne_7 ⟨rfl, rfl, hS0, zFr_rf, ⟨by omega, by omega, by omega, by omega, by omega, (zNv_k e4 (by omega) (by omega))⟩⟩

theorem lk_RX12_281 : LkV RX12 281 RX12 yX12_readOne cX12_readOne 4 none 0 := ⟨km_RX12_281, ki_yX12_readOne, ks_RX12_yX12_readOne, kn_RX12, kc_yX12_readOne, rfl, by decide +kernel, by decide +kernel, by decide +kernel⟩
set_option maxHeartbeats 1200000 in
set_option maxRecDepth 20000 in
theorem c_X12_readAll_7 {E : zE} {l : Launch} (hst : l.stackTraces = false) (a : Nat) : Con E l yX12_readAll cX12_readAll 1 none { frames := 2, cells := 0, slots := 0, locals := 43 } (fun G s vs => vs = [.ref a] ∧ zGK G ∧ zSK G s ∧ (gT G a = 13) ∧ (s a 7 = 7) ∧ (s a 3 ≤ 150) ∧ (s a 4 ≤ s a 3 + 2) ∧ (s a 5 = -1 → s a 38 ≤ s a 4) ∧ (zNv (s a 5) (s (gP G a 31)) (s (gP G a 32)) (s a 38)) ∧ (0 ≤ s a 5)) (fun G s _ => pV (fun G2 s2 => G2 = G ∧ zSK G s2 ∧ zFr [] G s s2 ∧ s a 4 ≤ s2 a 4 ∧ s a 5 ≤ s2 a 5 ∧ s2 a 4 ≤ s a 3 + 2 ∧ s2 a 7 = 7 ∧ (s2 a 5 = -1 → (zRp (s2 (gP G a 31)) 0 (s2 a 38).toNat = zRp (s (gP G a 31)) 0 (s a 38).toNat + 1 ∧ s a 38 + 1 ≤ s2 a 38 ∧ s2 a 38 - s a 38 ≤ s2 a 4 - s a 4 ∧ s2 a 4 ≤ s a 3)) ∧ zNv (s2 a 5) (s2 (gP G a 31)) (s2 (gP G a 32)) (s2 a 38))) := by
  refine Con.mk hst (by decide) (fun G s vs h => by rw [h.1]; exact Nat.le_of_ble_eq_true rfl) ?_
  rintro X G s0 vs ⟨rfl, hG, hS0, ha, e0, e1, e2, e3, e4, e5⟩ rfl hx hq
  show JJ X E 1 G s0 0 0 [(0, .ref a)] 0 []
  refine j_aload_n hx 0 dX12_readAll_0 rfl ?_
  have f1 := zf hS0 ha (k := 3) rfl
  have f2 := zf hS0 ha (k := 4) rfl
  have f3 := zf hS0 ha (k := 5) rfl
  have f4 := zf hS0 ha (k := 38) rfl
  refine j_callV hx hG (c_X12_readOne_7 hst a) lk_RX12_281 ha (by decide) rfl rfl rfl rfl [] ⟨rfl, hG, hS0, ha, (by omega), (by omega), (by omega), (by omega), ((zNv_k e4 (by omega) (by omega))), (by omega)⟩ rfl rfl ⟨by decide, by decide⟩ ⟨by decide, by decide⟩ (k2 := 0) (n2 := 0) rfl rfl (Nat.le_of_ble_eq_true rfl) dX12_readAll_1 (kVM (fun s1 hS_s1 hF_s1 q6 => ?_))
  have z7 : tOf 16 = 1476 := by decide +kernel
  refine j_aload_n hx 0 dX12_readAll_4 rfl ?_
  have g8 : s1 a 5 = s0 a 5 := (by rw [(zFr_g hF_s1 ha (by decide))])
  refine j_callV hx hG (c_X12_fine_n hst a) lk_RX12_166 ha (by decide) rfl rfl rfl rfl [] ⟨rfl, hG, hS_s1, ha, (by omega)⟩ rfl rfl ⟨by decide, by decide⟩ ⟨by decide, by decide⟩ (k2 := 0) (n2 := 0) rfl rfl (Nat.le_of_ble_eq_true rfl) dX12_readAll_5 (kIP (fun v9 q10 => ?_))
  refine j_if_eq hx 43 dX12_readAll_8 rfl (by omega) (fun h11 => ?_) (fun h11 => absurd h11 (by omega))
  have g12 : s1 a 4 = s0 a 4 := (by rw [(zFr_g hF_s1 ha (by decide))])
  have g13 : s1 a 7 = s0 a 7 := (by rw [(zFr_g hF_s1 ha (by decide))])
  have g14 : s1 a 38 = s0 a 38 := (by rw [(zFr_g hF_s1 ha (by decide))])
  have g15 : (s1 (gP G a 31)) = (s0 (gP G a 31)) := by rw [hF_s1 (gP G a 31) (by rw [(zr (k := 31) (t2 := 88) hG ha rfl)]; decide)]
  have g16 : zRp (s1 (gP G a 31)) 0 (s1 a 38).toNat = zRp (s0 (gP G a 31)) 0 (s0 a 38).toNat := by rw [g15, show s1 a 38 = s0 a 38 by omega]
  exact j_vret hx hq rfl (by decide) (by decide) dX12_readAll_43 ⟨rfl, rfl, hS_s1, (zFr_t zFr_rf hF_s1 (by decide)), ⟨by omega, by omega, by omega, by omega, by omega, (zNv_k q6.2.2.2.2.2 (by omega) (by omega))⟩⟩

theorem lk_RX12_272 : LkV RX12 272 RX12 yX12_readAll cX12_readAll 1 none 0 := ⟨km_RX12_272, ki_yX12_readAll, ks_RX12_yX12_readAll, kn_RX12, kc_yX12_readAll, rfl, by decide +kernel, by decide +kernel, by decide +kernel⟩
set_option maxHeartbeats 1200000 in
set_option maxRecDepth 20000 in
theorem c_X12_readAny_7 {E : zE} {l : Launch} (hst : l.stackTraces = false) (a : Nat) : Con E l yX12_readAny cX12_readAny 1 none { frames := 3, cells := 0, slots := 0, locals := 63 } (fun G s vs => vs = [.ref a] ∧ zGK G ∧ zSK G s ∧ (gT G a = 13) ∧ (s a 7 = 7) ∧ (s a 3 ≤ 150) ∧ (s a 4 ≤ s a 3 + 2) ∧ (s a 5 = -1 → s a 38 ≤ s a 4) ∧ (zNv (s a 5) (s (gP G a 31)) (s (gP G a 32)) (s a 38)) ∧ (0 ≤ s a 5)) (fun G s _ => pV (fun G2 s2 => G2 = G ∧ zSK G s2 ∧ zFr [] G s s2 ∧ s a 4 ≤ s2 a 4 ∧ s a 5 ≤ s2 a 5 ∧ s2 a 4 ≤ s a 3 + 2 ∧ s2 a 7 = 7 ∧ (s2 a 5 = -1 → (zRp (s2 (gP G a 31)) 0 (s2 a 38).toNat = zRp (s (gP G a 31)) 0 (s a 38).toNat + 1 ∧ s a 38 + 1 ≤ s2 a 38 ∧ s2 a 38 - s a 38 ≤ s2 a 4 - s a 4 ∧ s2 a 4 ≤ s a 3)) ∧ zNv (s2 a 5) (s2 (gP G a 31)) (s2 (gP G a 32)) (s2 a 38))) := by
  refine Con.mk hst (by decide) (fun G s vs h => by rw [h.1]; exact Nat.le_of_ble_eq_true rfl) ?_
  rintro X G s0 vs ⟨rfl, hG, hS0, ha, e0, e1, e2, e3, e4, e5⟩ rfl hx hq
  show JJ X E 1 G s0 0 0 [(0, .ref a)] 0 []
  refine j_aload_n hx 0 dX12_readAny_0 rfl ?_
  have f1 := zf hS0 ha (k := 3) rfl
  have f2 := zf hS0 ha (k := 4) rfl
  have f3 := zf hS0 ha (k := 5) rfl
  have f4 := zf hS0 ha (k := 38) rfl
  refine j_callV hx hG (c_X12_readAll_7 hst a) lk_RX12_272 ha (by decide) rfl rfl rfl rfl [] ⟨rfl, hG, hS0, ha, (by omega), (by omega), (by omega), (by omega), ((zNv_k e4 (by omega) (by omega))), (by omega)⟩ rfl rfl ⟨by decide, by decide⟩ ⟨by decide, by decide⟩ (k2 := 0) (n2 := 0) rfl rfl (Nat.le_of_ble_eq_true rfl) dX12_readAny_1 (kVM (fun s1 hS_s1 hF_s1 q6 => ?_))
  have z7 : tOf 17 = 498 := by decide +kernel
  refine j_aload_n hx 0 dX12_readAny_4 rfl ?_
  have g8 : s1 a 5 = s0 a 5 := (by rw [(zFr_g hF_s1 ha (by decide))])
  refine j_callV hx hG (c_X12_fine_n hst a) lk_RX12_166 ha (by decide) rfl rfl rfl rfl [] ⟨rfl, hG, hS_s1, ha, (by omega)⟩ rfl rfl ⟨by decide, by decide⟩ ⟨by decide, by decide⟩ (k2 := 0) (n2 := 0) rfl rfl (Nat.le_of_ble_eq_true rfl) dX12_readAny_5 (kIP (fun v9 q10 => ?_))
  refine j_if_eq hx 43 dX12_readAny_8 rfl (by omega) (fun h11 => ?_) (fun h11 => absurd h11 (by omega))
  have g12 : s1 a 4 = s0 a 4 := (by rw [(zFr_g hF_s1 ha (by decide))])
  have g13 : s1 a 7 = s0 a 7 := (by rw [(zFr_g hF_s1 ha (by decide))])
  have g14 : s1 a 38 = s0 a 38 := (by rw [(zFr_g hF_s1 ha (by decide))])
  have g15 : (s1 (gP G a 31)) = (s0 (gP G a 31)) := by rw [hF_s1 (gP G a 31) (by rw [(zr (k := 31) (t2 := 88) hG ha rfl)]; decide)]
  have g16 : zRp (s1 (gP G a 31)) 0 (s1 a 38).toNat = zRp (s0 (gP G a 31)) 0 (s0 a 38).toNat := by rw [g15, show s1 a 38 = s0 a 38 by omega]
  exact j_vret hx hq rfl (by decide) (by decide) dX12_readAny_43 ⟨rfl, rfl, hS_s1, (zFr_t zFr_rf hF_s1 (by decide)), ⟨by omega, by omega, by omega, by omega, by omega, (zNv_k q6.2.2.2.2.2 (by omega) (by omega))⟩⟩
