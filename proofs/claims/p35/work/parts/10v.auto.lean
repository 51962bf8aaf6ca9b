set_option maxHeartbeats 1200000 in
set_option maxRecDepth 20000 in
theorem c_X12_emit {E : zE} {l : Launch} (hst : l.stackTraces = false) (a : Nat) (x1 : Int) (x2 : Int) (x3 : Int) : Con E l yX12_emit cX12_emit 4 none { frames := 1, cells := 0, slots := 0, locals := 20 } (fun G s vs => vs = [.ref a, .int (zI x1), .int (zI x2), .int (zI x3)] ∧ zGK G ∧ zSK G s ∧ (gT G a = 13) ∧ (0 ≤ x1 ∧ x1 ≤ 22) ∧ ((-2147483648) ≤ x2 ∧ x2 ≤ 2147483647) ∧ ((-2147483648) ≤ x3 ∧ x3 ≤ 2147483647) ∧ (s a 5 = -1 → s a 38 ≤ 149) ∧ (zNv (s a 5) (s (gP G a 31)) (s (gP G a 32)) (s a 38)) ∧ (s a 5 = -1 → ((x1 = 20 → 1 ≤ zRp (s (gP G a 31)) 0 (s a 38).toNat) ∧ (20 < x1 → 2 ≤ zRp (s (gP G a 31)) 0 (s a 38).toNat) ∧ (x1 < 20 → x1 < 1 ∨ 10 < x1 → 1 ≤ x2)))) (fun G s _ => pV (fun G2 s2 => G2 = G ∧ zSK G s2 ∧ zFr [13, 88, 89, 90] G s s2 ∧ ((s2 a 5 = -1 → s2 a 38 = s a 38 + 1) ∧ (s a 38 ≤ s2 a 38)) ∧ zNv (s2 a 5) (s2 (gP G a 31)) (s2 (gP G a 32)) (s2 a 38) ∧ (s2 a 5 = -1 → ((x1 = 20 → zRp (s2 (gP G a 31)) 0 (s2 a 38).toNat = zRp (s (gP G a 31)) 0 (s a 38).toNat) ∧ (20 < x1 → zRp (s2 (gP G a 31)) 0 (s2 a 38).toNat = zRp (s (gP G a 31)) 0 (s a 38).toNat - 1) ∧ (x1 < 20 → zRp (s2 (gP G a 31)) 0 (s2 a 38).toNat = zRp (s (gP G a 31)) 0 (s a 38).toNat + 1))) ∧ s2 a 0 = s a 0 ∧ s2 a 3 = s a 3 ∧ s2 a 4 = s a 4 ∧ s2 a 5 = s a 5 ∧ s2 a 7 = s a 7 ∧ s2 a 21 = s a 21 ∧ s2 a 22 = s a 22 ∧ s2 a 23 = s a 23 ∧ s2 a 24 = s a 24 ∧ s2 a 51 = s a 51 ∧ s2 a 52 = s a 52)) := by
  refine Con.mk hst (by decide) (fun G s vs h => by rw [h.1]; exact Nat.le_of_ble_eq_true rfl) ?_
  rintro X G s0 vs ⟨rfl, hG, hS0, ha, hx1, hx2, hx3, e0, e1, e2⟩ rfl hx hq
  show JJ X E 4 G s0 0 0 [(0, .ref a), (1, .int (zI x1)), (2, .int (zI x2)), (3, .int (zI x3))] 0 []
  refine j_aload_n hx 0 dX12_emit_0 rfl ?_
  refine j_callV hx hG (c_X12_fine hst a) lk_RX12_166 ha (by decide) rfl rfl rfl rfl [] ⟨rfl, hG, hS0, ha⟩ rfl rfl ⟨by decide, by decide⟩ ⟨by decide, by decide⟩ (k2 := 0) (n2 := 0) rfl rfl (Nat.le_of_ble_eq_true rfl) dX12_emit_1 (kIP (fun v1 q2 => ?_))
  refine j_if_ne hx 8 dX12_emit_4 rfl (by omega) (fun h3 => ?_) (fun h3 => ?_)
  · skip
    refine j_aload_n hx 0 dX12_emit_8 rfl ?_
    refine g13_31 hx hG ha kf_RX12_68 dX12_emit_9 ?_
    refine j_aload_n hx 0 dX12_emit_12 rfl ?_
    have f4 := zf hS0 ha (k := 38) rfl
    refine g13_38 hx hG ha kf_RX12_269 rfl dX12_emit_13 ?_
    refine j_iload_n hx 1 dX12_emit_16 rfl ?_
    refine j_iast hx hG (zr (k := 31) (t2 := 88) hG ha rfl) (by decide) rfl (zlen hG (zr (k := 31) (t2 := 88) hG ha rfl) (n := 150) rfl rfl) (by omega) (by omega) (j := ((s0 a 38)).toNat) rfl dX12_emit_17 ?_
    obtain ⟨s1, e_s1⟩ : ∃ z, z = zU s0 (gP G a 31) ((s0 a 38)).toNat x1 := ⟨_, rfl⟩
    rw [← e_s1]
    have hS_s1 : zSK G s1 := by rw [e_s1]; exact zSK_A hS0 (zr (k := 31) (t2 := 88) hG ha rfl) rfl rfl rfl (by omega)
    refine j_aload_n hx 0 dX12_emit_18 rfl ?_
    refine g13_32 hx hG ha kf_RX12_71 dX12_emit_19 ?_
    refine j_aload_n hx 0 dX12_emit_22 rfl ?_
    refine g13_38 hx hG ha kf_RX12_269 (v := (s0 a 38)) (by rw [e_s1, zU_at (Or.inl (zne (zr (k := 31) (t2 := 88) hG ha rfl) ha (by decide)))]) dX12_emit_23 ?_
    refine j_iload_n hx 2 dX12_emit_26 rfl ?_
    refine j_iast hx hG (zr (k := 32) (t2 := 89) hG ha rfl) (by decide) rfl (zlen hG (zr (k := 32) (t2 := 89) hG ha rfl) (n := 150) rfl rfl) (by omega) (by omega) (j := ((s0 a 38)).toNat) rfl dX12_emit_27 ?_
    obtain ⟨s2, e_s2⟩ : ∃ z, z = zU s1 (gP G a 32) ((s0 a 38)).toNat x2 := ⟨_, rfl⟩
    rw [← e_s2]
    have hS_s2 : zSK G s2 := by rw [e_s2]; exact zSK_A hS_s1 (zr (k := 32) (t2 := 89) hG ha rfl) rfl rfl rfl (by omega)
    have hEm := zNv_e (e1 (by omega)) e_s1 e_s2 (zne (zr (k := 32) (t2 := 89) hG ha rfl) (zr (k := 31) (t2 := 88) hG ha rfl) (by decide)) (by omega) (fun h => by omega) (fun h => by omega) (fun h h2 => by omega)
    have hP6 : zNv (s0 a 5) (s2 (gP G a 31)) (s2 (gP G a 32)) (s0 a 38 + 1) := (fun _ => hEm.1)
    have z7 : zRp (s2 (gP G a 31)) 0 (s0 a 38 + 1).toNat = zRp (s1 (gP G a 31)) 0 (s0 a 38 + 1).toNat := by rw [show s2 (gP G a 31) = s1 (gP G a 31) by rw [e_s2]; exact zU_ne (zne (zr (k := 32) (t2 := 89) hG ha rfl) (zr (k := 31) (t2 := 88) hG ha rfl) (by decide))]
    refine j_aload_n hx 0 dX12_emit_28 rfl ?_
    refine g13_33 hx hG ha kf_RX12_74 dX12_emit_29 ?_
    refine j_aload_n hx 0 dX12_emit_32 rfl ?_
    refine g13_38 hx hG ha kf_RX12_269 (v := (s0 a 38)) (by rw [e_s2, zU_at (Or.inl (zne (zr (k := 32) (t2 := 89) hG ha rfl) ha (by decide))), e_s1, zU_at (Or.inl (zne (zr (k := 31) (t2 := 88) hG ha rfl) ha (by decide)))]) dX12_emit_33 ?_
    refine j_iload_n hx 3 dX12_emit_36 rfl ?_
    refine j_iast hx hG (zr (k := 33) (t2 := 90) hG ha rfl) (by decide) rfl (zlen hG (zr (k := 33) (t2 := 90) hG ha rfl) (n := 150) rfl rfl) (by omega) (by omega) (j := ((s0 a 38)).toNat) rfl dX12_emit_37 ?_
    obtain ⟨s3, e_s3⟩ : ∃ z, z = zU s2 (gP G a 33) ((s0 a 38)).toNat x3 := ⟨_, rfl⟩
    rw [← e_s3]
    have hS_s3 : zSK G s3 := by rw [e_s3]; exact zSK_A hS_s2 (zr (k := 33) (t2 := 90) hG ha rfl) rfl rfl rfl (by omega)
    refine j_aload_n hx 0 dX12_emit_38 rfl ?_
    refine j_dup hx dX12_emit_39 rfl ?_
    refine g13_38 hx hG ha kf_RX12_269 (v := (s0 a 38)) (by rw [e_s3, zU_at (Or.inl (zne (zr (k := 33) (t2 := 90) hG ha rfl) ha (by decide))), e_s2, zU_at (Or.inl (zne (zr (k := 32) (t2 := 89) hG ha rfl) ha (by decide))), e_s1, zU_at (Or.inl (zne (zr (k := 31) (t2 := 88) hG ha rfl) ha (by decide)))]) dX12_emit_40 ?_
    refine j_iconst hx dX12_emit_43 ?_
    refine j_iadd hx (r := (s0 a 38) + 1) dX12_emit_44 (by omega) ?_
    refine p13_38 hx hG ha kf_RX12_269 dX12_emit_45 ?_
    obtain ⟨s4, e_s4⟩ : ∃ z, z = zU s3 a 38 ((s0 a 38) + 1) := ⟨_, rfl⟩
    rw [← e_s4]
    have hS_s4 : zSK G s4 := by rw [e_s4]; exact zSK_F hS_s3 ha rfl rfl rfl (by omega)
    have g8 : s4 a 5 = s0 a 5 := (by rw [e_s4, zU_at (Or.inr (by decide)), e_s3, zU_at (Or.inl (zne (zr (k := 33) (t2 := 90) hG ha rfl) ha (by decide))), e_s2, zU_at (Or.inl (zne (zr (k := 32) (t2 := 89) hG ha rfl) ha (by decide))), e_s1, zU_at (Or.inl (zne (zr (k := 31) (t2 := 88) hG ha rfl) ha (by decide)))])
    have f9 := zf hS0 ha (k := 5) rfl
    have g10 : s4 a 38 = (s0 a 38) + 1 := (by rw [e_s4, zU_eq])
    have g11 : (s4 (gP G a 31)) = (s1 (gP G a 31)) := by rw [e_s4, zU_ne (zne ha (zr (k := 31) (t2 := 88) hG ha rfl) (by decide)), e_s3, zU_ne (zne (zr (k := 33) (t2 := 90) hG ha rfl) (zr (k := 31) (t2 := 88) hG ha rfl) (by decide)), e_s2, zU_ne (zne (zr (k := 32) (t2 := 89) hG ha rfl) (zr (k := 31) (t2 := 88) hG ha rfl) (by decide))]
    have g12 : zRp (s4 (gP G a 31)) 0 (s4 a 38).toNat = zRp (s1 (gP G a 31)) 0 ((s0 a 38) + 1).toNat := by rw [g11, show s4 a 38 = (s0 a 38) + 1 by omega]
    have g13 : s4 a 0 = s0 a 0 := (by rw [e_s4, zU_at (Or.inr (by decide)), e_s3, zU_at (Or.inl (zne (zr (k := 33) (t2 := 90) hG ha rfl) ha (by decide))), e_s2, zU_at (Or.inl (zne (zr (k := 32) (t2 := 89) hG ha rfl) ha (by decide))), e_s1, zU_at (Or.inl (zne (zr (k := 31) (t2 := 88) hG ha rfl) ha (by decide)))])
    have f14 := zf hS0 ha (k := 0) rfl
    have g15 : s4 a 3 = s0 a 3 := (by rw [e_s4, zU_at (Or.inr (by decide)), e_s3, zU_at (Or.inl (zne (zr (k := 33) (t2 := 90) hG ha rfl) ha (by decide))), e_s2, zU_at (Or.inl (zne (zr (k := 32) (t2 := 89) hG ha rfl) ha (by decide))), e_s1, zU_at (Or.inl (zne (zr (k := 31) (t2 := 88) hG ha rfl) ha (by decide)))])
    have f16 := zf hS0 ha (k := 3) rfl
    have g17 : s4 a 4 = s0 a 4 := (by rw [e_s4, zU_at (Or.inr (by decide)), e_s3, zU_at (Or.inl (zne (zr (k := 33) (t2 := 90) hG ha rfl) ha (by decide))), e_s2, zU_at (Or.inl (zne (zr (k := 32) (t2 := 89) hG ha rfl) ha (by decide))), e_s1, zU_at (Or.inl (zne (zr (k := 31) (t2 := 88) hG ha rfl) ha (by decide)))])
    have f18 := zf hS0 ha (k := 4) rfl
    have g19 : s4 a 7 = s0 a 7 := (by rw [e_s4, zU_at (Or.inr (by decide)), e_s3, zU_at (Or.inl (zne (zr (k := 33) (t2 := 90) hG ha rfl) ha (by decide))), e_s2, zU_at (Or.inl (zne (zr (k := 32) (t2 := 89) hG ha rfl) ha (by decide))), e_s1, zU_at (Or.inl (zne (zr (k := 31) (t2 := 88) hG ha rfl) ha (by decide)))])
    have f20 := zf hS0 ha (k := 7) rfl
    have g21 : s4 a 21 = s0 a 21 := (by rw [e_s4, zU_at (Or.inr (by decide)), e_s3, zU_at (Or.inl (zne (zr (k := 33) (t2 := 90) hG ha rfl) ha (by decide))), e_s2, zU_at (Or.inl (zne (zr (k := 32) (t2 := 89) hG ha rfl) ha (by decide))), e_s1, zU_at (Or.inl (zne (zr (k := 31) (t2 := 88) hG ha rfl) ha (by decide)))])
    have f22 := zf hS0 ha (k := 21) rfl
    have g23 : s4 a 22 = s0 a 22 := (by rw [e_s4, zU_at (Or.inr (by decide)), e_s3, zU_at (Or.inl (zne (zr (k := 33) (t2 := 90) hG ha rfl) ha (by decide))), e_s2, zU_at (Or.inl (zne (zr (k := 32) (t2 := 89) hG ha rfl) ha (by decide))), e_s1, zU_at (Or.inl (zne (zr (k := 31) (t2 := 88) hG ha rfl) ha (by decide)))])
    have f24 := zf hS0 ha (k := 22) rfl
    have g25 : s4 a 23 = s0 a 23 := (by rw [e_s4, zU_at (Or.inr (by decide)), e_s3, zU_at (Or.inl (zne (zr (k := 33) (t2 := 90) hG ha rfl) ha (by decide))), e_s2, zU_at (Or.inl (zne (zr (k := 32) (t2 := 89) hG ha rfl) ha (by decide))), e_s1, zU_at (Or.inl (zne (zr (k := 31) (t2 := 88) hG ha rfl) ha (by decide)))])
    have f26 := zf hS0 ha (k := 23) rfl
    have g27 : s4 a 24 = s0 a 24 := (by rw [e_s4, zU_at (Or.inr (by decide)), e_s3, zU_at (Or.inl (zne (zr (k := 33) (t2 := 90) hG ha rfl) ha (by decide))), e_s2, zU_at (Or.inl (zne (zr (k := 32) (t2 := 89) hG ha rfl) ha (by decide))), e_s1, zU_at (Or.inl (zne (zr (k := 31) (t2 := 88) hG ha rfl) ha (by decide)))])
    have f28 := zf hS0 ha (k := 24) rfl
    have g29 : s4 a 51 = s0 a 51 := (by rw [e_s4, zU_at (Or.inr (by decide)), e_s3, zU_at (Or.inl (zne (zr (k := 33) (t2 := 90) hG ha rfl) ha (by decide))), e_s2, zU_at (Or.inl (zne (zr (k := 32) (t2 := 89) hG ha rfl) ha (by decide))), e_s1, zU_at (Or.inl (zne (zr (k := 31) (t2 := 88) hG ha rfl) ha (by decide)))])
    have f30 := zf hS0 ha (k := 51) rfl
    have g31 : s4 a 52 = s0 a 52 := (by rw [e_s4, zU_at (Or.inr (by decide)), e_s3, zU_at (Or.inl (zne (zr (k := 33) (t2 := 90) hG ha rfl) ha (by decide))), e_s2, zU_at (Or.inl (zne (zr (k := 32) (t2 := 89) hG ha rfl) ha (by decide))), e_s1, zU_at (Or.inl (zne (zr (k := 31) (t2 := 88) hG ha rfl) ha (by decide)))])
    have f32 := zf hS0 ha (k := 52) rfl
    exact j_vret hx hq rfl (by decide) (by decide) dX12_emit_48 ⟨rfl, rfl, hS_s4, (zFr_u (zFr_u (zFr_u (zFr_u zFr_rf e_s1 (zr (k := 31) (t2 := 88) hG ha rfl) (by decide)) e_s2 (zr (k := 32) (t2 := 89) hG ha rfl) (by decide)) e_s3 (zr (k := 33) (t2 := 90) hG ha rfl) (by decide)) e_s4 ha (by decide)), ⟨by omega, (by have q1 : s4 (gP G a 31) = s2 (gP G a 31) := (by rw [e_s4, zU_ne (zne ha (zr (k := 31) (t2 := 88) hG ha rfl) (by decide)), e_s3, zU_ne (zne (zr (k := 33) (t2 := 90) hG ha rfl) (zr (k := 31) (t2 := 88) hG ha rfl) (by decide))]); have q2 : s4 (gP G a 32) = s2 (gP G a 32) := (by rw [e_s4, zU_ne (zne ha (zr (k := 32) (t2 := 89) hG ha rfl) (by decide)), e_s3, zU_ne (zne (zr (k := 33) (t2 := 90) hG ha rfl) (zr (k := 32) (t2 := 89) hG ha rfl) (by decide))]); rw [q1, q2]; exact (zNv_k hP6 (by omega) (by omega))), by omega, by omega, by omega, by omega, by omega, by omega, by omega, by omega, by omega, by omega, by omega, by omega⟩⟩
  · skip
    have f33 := zf hS0 ha (k := 5) rfl
    have f34 := zf hS0 ha (k := 38) rfl
    have f35 := zf hS0 ha (k := 0) rfl
    have f36 := zf hS0 ha (k := 3) rfl
    have f37 := zf hS0 ha (k := 4) rfl
    have f38 := zf hS0 ha (k := 7) rfl
    have f39 := zf hS0 ha (k := 21) rfl
    have f40 := zf hS0 ha (k := 22) rfl
    have f41 := zf hS0 ha (k := 23) rfl
    have f42 := zf hS0 ha (k := 24) rfl
    have f43 := zf hS0 ha (k := 51) rfl
    have f44 := zf hS0 ha (k := 52) rfl
    exact j_vret hx hq rfl (by decide) (by decide) dX12_emit_7 ⟨rfl, rfl, hS0, zFr_rf, ⟨by omega, (zNv_k e1 (by omega) (by omega)), by omega, by omega, by omega, by omega, by omega, by omega, by omega, by omega, by omega, by omega, by omega, by omega⟩⟩

set_option maxHeartbeats 1200000 in
set_option maxRecDepth 20000 in
theorem c_X12_pass_h {E : zE} {l : Launch} (hst : l.stackTraces = false) (a : Nat) : Con E l yX12_pass cX12_pass 1 none { frames := 1, cells := 0, slots := 0, locals := 20 } (fun G s vs => vs = [.ref a] ∧ zGK G ∧ zSK G s ∧ (gT G a = 13) ∧ (s a 4 ≤ s a 3 + 2)) (fun G s _ => pV (fun G2 s2 => G2 = G ∧ zSK G s2 ∧ zFr [13] G s s2 ∧ s a 4 ≤ s2 a 4 ∧ s2 a 4 ≤ s a 3 + 2 ∧ ((s a 4 < s a 3 ∧ 97 ≤ s (gP G a 9) (s a 4).toNat ∧ s (gP G a 9) (s a 4).toNat ≤ 122) → s a 4 + 1 ≤ s2 a 4) ∧ (s a 4 ≤ s a 3 → s2 a 4 ≤ s a 3) ∧ s2 a 0 = s a 0 ∧ s2 a 3 = s a 3 ∧ s2 a 5 = s a 5 ∧ s2 a 7 = s a 7 ∧ s2 a 21 = s a 21 ∧ s2 a 22 = s a 22 ∧ s2 a 23 = s a 23 ∧ s2 a 24 = s a 24 ∧ s2 a 38 = s a 38 ∧ s2 a 51 = s a 51 ∧ s2 a 52 = s a 52)) := by
  refine Con.mk hst (by decide) (fun G s vs h => by rw [h.1]; exact Nat.le_of_ble_eq_true rfl) ?_
  rintro X G s0 vs ⟨rfl, hG, hS0, ha, e0⟩ rfl hx hq
  show JJ X E 1 G s0 0 0 [(0, .ref a)] 0 []
  have f1 := zf hS0 ha (k := 0) rfl
  have f2 := zf hS0 ha (k := 3) rfl
  have f3 := zf hS0 ha (k := 5) rfl
  have f4 := zf hS0 ha (k := 7) rfl
  have f5 := zf hS0 ha (k := 21) rfl
  have f6 := zf hS0 ha (k := 22) rfl
  have f7 := zf hS0 ha (k := 23) rfl
  have f8 := zf hS0 ha (k := 24) rfl
  have f9 := zf hS0 ha (k := 38) rfl
  have f10 := zf hS0 ha (k := 51) rfl
  have f11 := zf hS0 ha (k := 52) rfl
  have f12 := zf hS0 ha (k := 4) rfl
  have c0_1 : ∀ (m_c0_1 : Nat) (s2 : zS), 1000 - s2 a 4 < m_c0_1 → (zSK G s2) → (zFr [13] G s0 s2) → (s2 a 0 = s0 a 0) → (s2 a 3 = s0 a 3) → (s2 a 5 = s0 a 5) → (s2 a 7 = s0 a 7) → (s2 a 21 = s0 a 21) → (s2 a 22 = s0 a 22) → (s2 a 23 = s0 a 23) → (s2 a 24 = s0 a 24) → (s2 a 38 = s0 a 38) → (s2 a 51 = s0 a 51) → (s2 a 52 = s0 a 52) → (s0 a 4 ≤ s2 a 4) → (s2 a 4 ≤ s2 a 3 + 2) → (s2 a 4 = s0 a 4 ∨ s0 a 4 + 1 ≤ s2 a 4) → (s0 a 4 ≤ s0 a 3 → s2 a 4 ≤ s2 a 3) → JJ X E 1 G s2 0 0 [(0, .ref a)] 0 [] := by
    intro m_c0_1
    induction m_c0_1 with
    | zero => intro s2 hm_c0_1 hS_s2 hF_s2 fA5 fA6 fA7 fA8 fA9 fA10 fA11 fA12 fA13 fA14 fA15 fA16 fA17 fA18 fA19; exfalso; omega
    | succ m_c0_1 ih_c0_1 => 
      intro s2 hm_c0_1 hS_s2 hF_s2 fA5 fA6 fA7 fA8 fA9 fA10 fA11 fA12 fA13 fA14 fA15 fA16 fA17 fA18 fA19
      have z13 : s2 a 4 = s0 a 4 → s0 (gP G a 9) (s2 a 4).toNat = s0 (gP G a 9) (s0 a 4).toNat := fun h => by rw [h]
      refine j_aload_n hx 0 dX12_pass_0 rfl ?_
      have f14 := zf hS_s2 ha (k := 4) rfl
      refine g13_4 hx hG ha kf_RX12_143 rfl dX12_pass_1 ?_
      refine j_aload_n hx 0 dX12_pass_4 rfl ?_
      have f15 := zf hS_s2 ha (k := 3) rfl
      refine g13_3 hx hG ha kf_RX12_146 rfl dX12_pass_5 ?_
      refine j_icmp_ge hx 39 dX12_pass_8 rfl (by omega) (by omega) (fun h16 => ?_) (fun h16 => ?_)
      · skip
        have f17 := zf hS_s2 ha (k := 0) rfl
        have f18 := zf hS_s2 ha (k := 5) rfl
        have f19 := zf hS_s2 ha (k := 7) rfl
        have f20 := zf hS_s2 ha (k := 21) rfl
        have f21 := zf hS_s2 ha (k := 22) rfl
        have f22 := zf hS_s2 ha (k := 23) rfl
        have f23 := zf hS_s2 ha (k := 24) rfl
        have f24 := zf hS_s2 ha (k := 38) rfl
        have f25 := zf hS_s2 ha (k := 51) rfl
        have f26 := zf hS_s2 ha (k := 52) rfl
        exact j_vret hx hq rfl (by decide) (by decide) dX12_pass_39 ⟨rfl, rfl, hS_s2, (zFr_t zFr_rf hF_s2 (by decide)), ⟨by omega, by omega, by omega, by omega, by omega, by omega, by omega, by omega, by omega, by omega, by omega, by omega, by omega, by omega, by omega⟩⟩
      · skip
        refine j_aload_n hx 0 dX12_pass_11 rfl ?_
        refine g13_9 hx hG ha kf_RX12_20 dX12_pass_12 ?_
        refine j_aload_n hx 0 dX12_pass_15 rfl ?_
        refine g13_4 hx hG ha kf_RX12_143 rfl dX12_pass_16 ?_
        have f27 := zaI (j := ((s2 a 4)).toNat) hS0 (zr (k := 9) (t2 := 72) hG ha rfl) rfl (zlen hG (zr (k := 9) (t2 := 72) hG ha rfl) (n := 600) rfl rfl) (show 0 ≤ (s2 a 4) by omega) (by omega) rfl
        refine j_iald hx hG (zr (k := 9) (t2 := 72) hG ha rfl) (by decide) rfl (zlen hG (zr (k := 9) (t2 := 72) hG ha rfl) (n := 600) rfl rfl) (by omega) (by omega) (j := ((s2 a 4)).toNat) rfl (v := (s0 (gP G a 9) ((s2 a 4)).toNat)) (by rw [(zFr_g hF_s2 (zr (k := 9) (t2 := 72) hG ha rfl) (by decide))]) dX12_pass_19 ?_
        refine j_callS hx (c_X12_isSmall hst ((s0 (gP G a 9) ((s2 a 4)).toNat))) lk_RX12_153 [.int (zI ((s0 (gP G a 9) ((s2 a 4)).toNat)))] ⟨rfl, hG, hS_s2, (by omega)⟩ rfl rfl ⟨by decide, by decide⟩ ⟨by decide, by decide⟩ (k2 := 0) (n2 := 0) rfl rfl (Nat.le_of_ble_eq_true rfl) dX12_pass_20 (kIP (fun v28 q29 => ?_))
        refine j_if_eq hx 39 dX12_pass_23 rfl (by omega) (fun h30 => ?_) (fun h30 => ?_)
        · skip
          have f31 := zf hS_s2 ha (k := 0) rfl
          have f32 := zf hS_s2 ha (k := 5) rfl
          have f33 := zf hS_s2 ha (k := 7) rfl
          have f34 := zf hS_s2 ha (k := 21) rfl
          have f35 := zf hS_s2 ha (k := 22) rfl
          have f36 := zf hS_s2 ha (k := 23) rfl
          have f37 := zf hS_s2 ha (k := 24) rfl
          have f38 := zf hS_s2 ha (k := 38) rfl
          have f39 := zf hS_s2 ha (k := 51) rfl
          have f40 := zf hS_s2 ha (k := 52) rfl
          exact j_vret hx hq rfl (by decide) (by decide) dX12_pass_39 ⟨rfl, rfl, hS_s2, (zFr_t zFr_rf hF_s2 (by decide)), ⟨by omega, by omega, by omega, by omega, by omega, by omega, by omega, by omega, by omega, by omega, by omega, by omega, by omega, by omega, by omega⟩⟩
        · skip
          refine j_aload_n hx 0 dX12_pass_26 rfl ?_
          refine j_dup hx dX12_pass_27 rfl ?_
          refine g13_4 hx hG ha kf_RX12_143 rfl dX12_pass_28 ?_
          refine j_iconst hx dX12_pass_31 ?_
          refine j_iadd hx (r := (s2 a 4) + 1) dX12_pass_32 (by omega) ?_
          refine p13_4 hx hG ha kf_RX12_143 dX12_pass_33 ?_
          obtain ⟨s20, e_s20⟩ : ∃ z, z = zU s2 a 4 ((s2 a 4) + 1) := ⟨_, rfl⟩
          rw [← e_s20]
          have hS_s20 : zSK G s20 := by rw [e_s20]; exact zSK_F hS_s2 ha rfl rfl rfl (by omega)
          refine j_goto hx 0 dX12_pass_36 rfl ?_
          have g41 : s20 a 4 = (s2 a 4) + 1 := (by rw [e_s20, zU_eq])
          have g42 : s20 a 0 = s2 a 0 := (by rw [e_s20, zU_at (Or.inr (by decide))])
          have f43 := zf hS_s2 ha (k := 0) rfl
          have g44 : s20 a 3 = s2 a 3 := (by rw [e_s20, zU_at (Or.inr (by decide))])
          have g45 : s20 a 5 = s2 a 5 := (by rw [e_s20, zU_at (Or.inr (by decide))])
          have f46 := zf hS_s2 ha (k := 5) rfl
          have g47 : s20 a 7 = s2 a 7 := (by rw [e_s20, zU_at (Or.inr (by decide))])
          have f48 := zf hS_s2 ha (k := 7) rfl
          have g49 : s20 a 21 = s2 a 21 := (by rw [e_s20, zU_at (Or.inr (by decide))])
          have f50 := zf hS_s2 ha (k := 21) rfl
          have g51 : s20 a 22 = s2 a 22 := (by rw [e_s20, zU_at (Or.inr (by decide))])
          have f52 := zf hS_s2 ha (k := 22) rfl
          have g53 : s20 a 23 = s2 a 23 := (by rw [e_s20, zU_at (Or.inr (by decide))])
          have f54 := zf hS_s2 ha (k := 23) rfl
          have g55 : s20 a 24 = s2 a 24 := (by rw [e_s20, zU_at (Or.inr (by decide))])
          have f56 := zf hS_s2 ha (k := 24) rfl
          have g57 : s20 a 38 = s2 a 38 := (by rw [e_s20, zU_at (Or.inr (by decide))])
          have f58 := zf hS_s2 ha (k := 38) rfl
          have g59 : s20 a 51 = s2 a 51 := (by rw [e_s20, zU_at (Or.inr (by decide))])
          have f60 := zf hS_s2 ha (k := 51) rfl
          have g61 : s20 a 52 = s2 a 52 := (by rw [e_s20, zU_at (Or.inr (by decide))])
          have f62 := zf hS_s2 ha (k := 52) rfl
          exact j_sub [0] [(0, .ref a)] rfl (ih_c0_1 s20 (by omega) hS_s20 (zFr_u (zFr_t zFr_rf hF_s2 (by decide)) e_s20 ha (by decide)) (by omega) (by omega) (by omega) (by omega) (by omega) (by omega) (by omega) (by omega) (by omega) (by omega) (by omega) (by omega) (by omega) (by omega) (by omega))
  exact j_sub [0] [(0, .ref a)] rfl (c0_1 (2147483648 * 4) s0 (by omega) hS0 zFr_rf (by omega) (by omega) (by omega) (by omega) (by omega) (by omega) (by omega) (by omega) (by omega) (by omega) (by omega) (by omega) (by omega) (by omega) (by omega))

set_option maxHeartbeats 1200000 in
set_option maxRecDepth 20000 in
theorem c_X12_readNumber_h {E : zE} {l : Launch} (hst : l.stackTraces = false) (a : Nat) (x1 : Int) (x2 : Int) : Con E l yX12_readNumber cX12_readNumber 6 (some .int) { frames := 1, cells := 0, slots := 0, locals := 22 } (fun G s vs => vs = [.ref a, .int (zI x1), .int (zI x2)] ∧ zGK G ∧ zSK G s ∧ (gT G a = 13) ∧ (0 ≤ x1 ∧ x1 ≤ 1) ∧ (0 ≤ x2 ∧ x2 ≤ 9999) ∧ (s a 4 ≤ s a 3 + 2)) (fun G s _ => pI (fun r G2 s2 => G2 = G ∧ zSK G s2 ∧ zFr [13] G s s2 ∧ (0 ≤ r ∧ r ≤ 9999) ∧ s a 4 ≤ s2 a 4 ∧ s a 5 ≤ s2 a 5 ∧ x1 ≤ r + 10000 * (s2 a 5 + 1) ∧ r ≤ x2 ∧ s2 a 4 ≤ s a 3 + 2 ∧ s2 a 4 ≤ s a 3 + 2 * (s2 a 5 + 1) ∧ s2 a 0 = s a 0 ∧ s2 a 3 = s a 3 ∧ s2 a 7 = s a 7 ∧ s2 a 21 = s a 21 ∧ s2 a 22 = s a 22 ∧ s2 a 23 = s a 23 ∧ s2 a 24 = s a 24 ∧ s2 a 38 = s a 38 ∧ s2 a 51 = s a 51 ∧ s2 a 52 = s a 52)) := by
  refine Con.mk hst (by decide) (fun G s vs h => by rw [h.1]; exact Nat.le_of_ble_eq_true rfl) ?_
  rintro X G s0 vs ⟨rfl, hG, hS0, ha, hx1, hx2, e0⟩ rfl hx hq
  show JJ X E 6 G s0 0 0 [(0, .ref a), (1, .int (zI x1)), (2, .int (zI x2))] 0 []
  refine j_aload_n hx 0 dX12_readNumber_0 rfl ?_
  refine j_callV hx hG (c_X12_fine hst a) lk_RX12_166 ha (by decide) rfl rfl rfl rfl [] ⟨rfl, hG, hS0, ha⟩ rfl rfl ⟨by decide, by decide⟩ ⟨by decide, by decide⟩ (k2 := 0) (n2 := 0) rfl rfl (Nat.le_of_ble_eq_true rfl) dX12_readNumber_1 (kIP (fun v1 q2 => ?_))
  refine j_if_ne hx 9 dX12_readNumber_4 rfl (by omega) (fun h3 => ?_) (fun h3 => ?_)
  · skip
    refine j_aload_n hx 0 dX12_readNumber_9 rfl ?_
    have f4 := zf hS0 ha (k := 4) rfl
    have f5 := zf hS0 ha (k := 3) rfl
    have f6 := zf hS0 ha (k := 0) rfl
    have f7 := zf hS0 ha (k := 5) rfl
    have f8 := zf hS0 ha (k := 7) rfl
    have f9 := zf hS0 ha (k := 21) rfl
    have f10 := zf hS0 ha (k := 22) rfl
    have f11 := zf hS0 ha (k := 23) rfl
    have f12 := zf hS0 ha (k := 24) rfl
    have f13 := zf hS0 ha (k := 38) rfl
    have f14 := zf hS0 ha (k := 51) rfl
    have f15 := zf hS0 ha (k := 52) rfl
    refine j_callV hx hG (c_X12_here hst a) lk_RX12_149 ha (by decide) rfl rfl rfl rfl [] ⟨rfl, hG, hS0, ha, (by omega)⟩ rfl rfl ⟨by decide, by decide⟩ ⟨by decide, by decide⟩ (k2 := 0) (n2 := 0) rfl rfl (Nat.le_of_ble_eq_true rfl) dX12_readNumber_10 (kIM (fun v16 s1 hS_s1 hF_s1 q17 => ?_))
    refine j_istore_n hx [(3, .int (zI v16)), (0, .ref a), (1, .int (zI x1)), (2, .int (zI x2))] dX12_readNumber_13 (by decide) rfl ?_
    refine j_aload_n hx 1 dX12_readNumber_14 rfl ?_
    have f18 := zf hS_s1 ha (k := 4) rfl
    refine g13_4 hx hG ha kf_RX12_143 rfl dX12_readNumber_15 ?_
    refine j_istore hx [(4, .int (zI ((s1 a 4)))), (3, .int (zI v16)), (0, .ref a), (1, .int (zI x1)), (2, .int (zI x2))] dX12_readNumber_18 (by decide) rfl ?_
    refine j_iconst hx dX12_readNumber_20 ?_
    refine j_istore hx [(5, .int (zI 0)), (4, .int (zI ((s1 a 4)))), (3, .int (zI v16)), (0, .ref a), (1, .int (zI x1)), (2, .int (zI x2))] dX12_readNumber_21 (by decide) rfl ?_
    refine j_iload_n hx 2 dX12_readNumber_23 rfl ?_
    refine j_callS hx (c_X12_isDigit hst v16) lk_RX12_170 [.int (zI v16)] ⟨rfl, hG, hS_s1, (by omega)⟩ rfl rfl ⟨by decide, by decide⟩ ⟨by decide, by decide⟩ (k2 := 0) (n2 := 0) rfl rfl (Nat.le_of_ble_eq_true rfl) dX12_readNumber_24 (kIP (fun v19 q20 => ?_))
    have f22 := zf hS_s1 ha (k := 0) rfl
    have f23 := zf hS_s1 ha (k := 3) rfl
    have f24 := zf hS_s1 ha (k := 5) rfl
    have f25 := zf hS_s1 ha (k := 7) rfl
    have f26 := zf hS_s1 ha (k := 21) rfl
    have f27 := zf hS_s1 ha (k := 22) rfl
    have f28 := zf hS_s1 ha (k := 23) rfl
    have f29 := zf hS_s1 ha (k := 24) rfl
    have f30 := zf hS_s1 ha (k := 38) rfl
    have f31 := zf hS_s1 ha (k := 51) rfl
    have f32 := zf hS_s1 ha (k := 52) rfl
    have c41_2 : ∀ (m_c41_2 : Nat) (v21 : Int) (s3 : zS), 1000 - s3 a 4 < m_c41_2 → (0 ≤ v21 ∧ v21 ≤ 100100) → (zSK G s3) → (zFr [13] G s1 s3) → (s3 a 0 = s1 a 0) → (s3 a 3 = s1 a 3) → (s3 a 5 = s1 a 5) → (s3 a 7 = s1 a 7) → (s3 a 21 = s1 a 21) → (s3 a 22 = s1 a 22) → (s3 a 23 = s1 a 23) → (s3 a 24 = s1 a 24) → (s3 a 38 = s1 a 38) → (s3 a 51 = s1 a 51) → (s3 a 52 = s1 a 52) → (s1 a 4 ≤ s3 a 4) → (s3 a 4 ≤ s3 a 3) → JJ X E 6 G s3 0 0 [(0, .ref a), (1, .int (zI x1)), (2, .int (zI x2)), (4, .int (zI ((s1 a 4)))), (5, .int (zI v21))] 41 [] := by
      intro m_c41_2
      induction m_c41_2 with
      | zero => intro v21 s3 hm_c41_2 fA4 hS_s3 hF_s3 fA7 fA8 fA9 fA10 fA11 fA12 fA13 fA14 fA15 fA16 fA17 fA18 fA19; exfalso; omega
      | succ m_c41_2 ih_c41_2 => 
        intro v21 s3 hm_c41_2 fA4 hS_s3 hF_s3 fA7 fA8 fA9 fA10 fA11 fA12 fA13 fA14 fA15 fA16 fA17 fA18 fA19
        refine j_aload_n hx 0 dX12_readNumber_41 rfl ?_
        have f33 := zf hS_s3 ha (k := 4) rfl
        refine g13_4 hx hG ha kf_RX12_143 rfl dX12_readNumber_42 ?_
        refine j_aload_n hx 0 dX12_readNumber_45 rfl ?_
        have f34 := zf hS_s3 ha (k := 3) rfl
        refine g13_3 hx hG ha kf_RX12_146 rfl dX12_readNumber_46 ?_
        refine j_icmp_ge hx 114 dX12_readNumber_49 rfl (by omega) (by omega) (fun h35 => ?_) (fun h35 => ?_)
        · skip
          refine j_iload hx 4 dX12_readNumber_114 rfl ?_
          refine j_iload_n hx 1 dX12_readNumber_116 rfl ?_
          refine j_icmp_lt hx 126 dX12_readNumber_117 rfl (by omega) (by omega) (fun h36 => ?_) (fun h36 => ?_)
          · skip
            refine j_aload_n hx 0 dX12_readNumber_126 rfl ?_
            refine j_iconst hx dX12_readNumber_127 ?_
            refine j_iload hx 3 dX12_readNumber_128 rfl ?_
            have f37 := zf hS_s3 ha (k := 5) rfl
            have f38 := zf hS_s3 ha (k := 0) rfl
            have f39 := zf hS_s3 ha (k := 7) rfl
            have f40 := zf hS_s3 ha (k := 21) rfl
            have f41 := zf hS_s3 ha (k := 22) rfl
            have f42 := zf hS_s3 ha (k := 23) rfl
            have f43 := zf hS_s3 ha (k := 24) rfl
            have f44 := zf hS_s3 ha (k := 38) rfl
            have f45 := zf hS_s3 ha (k := 51) rfl
            have f46 := zf hS_s3 ha (k := 52) rfl
            refine j_callV hx hG (c_X12_wrong hst a 2 ((s1 a 4))) lk_RX12_173 ha (by decide) rfl rfl rfl rfl [.int (zI 2), .int (zI ((s1 a 4)))] ⟨rfl, hG, hS_s3, ha, (by omega), (by omega)⟩ rfl rfl ⟨by decide, by decide⟩ ⟨by decide, by decide⟩ (k2 := 0) (n2 := 0) rfl rfl (Nat.le_of_ble_eq_true rfl) dX12_readNumber_130 (kVM (fun s20 hS_s20 hF_s20 q48 => ?_))
            refine j_iconst hx dX12_readNumber_133 ?_
            have f49 := zf hS_s20 ha (k := 4) rfl
            have f50 := zf hS_s20 ha (k := 5) rfl
            have f51 := zf hS_s20 ha (k := 0) rfl
            have f52 := zf hS_s20 ha (k := 3) rfl
            have f53 := zf hS_s20 ha (k := 7) rfl
            have f54 := zf hS_s20 ha (k := 21) rfl
            have f55 := zf hS_s20 ha (k := 22) rfl
            have f56 := zf hS_s20 ha (k := 23) rfl
            have f57 := zf hS_s20 ha (k := 24) rfl
            have f58 := zf hS_s20 ha (k := 38) rfl
            have f59 := zf hS_s20 ha (k := 51) rfl
            have f60 := zf hS_s20 ha (k := 52) rfl
            exact j_iret hx hq rfl (by decide) (by decide) dX12_readNumber_134 ⟨0, rfl, rfl, hS_s20, (zFr_t (zFr_t (zFr_t zFr_rf hF_s1 (by decide)) hF_s3 (by decide)) hF_s20 (by decide)), ⟨(by omega), by omega, by omega, by omega, by omega, by omega, by omega, by omega, by omega, by omega, by omega, by omega, by omega, by omega, by omega, by omega, by omega⟩⟩
          · skip
            refine j_iload hx 4 dX12_readNumber_120 rfl ?_
            refine j_iload_n hx 2 dX12_readNumber_122 rfl ?_
            refine j_icmp_le hx 135 dX12_readNumber_123 rfl (by omega) (by omega) (fun h61 => ?_) (fun h61 => ?_)
            · skip
              refine j_iload hx 4 dX12_readNumber_135 rfl ?_
              have f62 := zf hS_s3 ha (k := 5) rfl
              have f63 := zf hS_s3 ha (k := 0) rfl
              have f64 := zf hS_s3 ha (k := 7) rfl
              have f65 := zf hS_s3 ha (k := 21) rfl
              have f66 := zf hS_s3 ha (k := 22) rfl
              have f67 := zf hS_s3 ha (k := 23) rfl
              have f68 := zf hS_s3 ha (k := 24) rfl
              have f69 := zf hS_s3 ha (k := 38) rfl
              have f70 := zf hS_s3 ha (k := 51) rfl
              have f71 := zf hS_s3 ha (k := 52) rfl
              exact j_iret hx hq rfl (by decide) (by decide) dX12_readNumber_137 ⟨v21, rfl, rfl, hS_s3, (zFr_t (zFr_t zFr_rf hF_s1 (by decide)) hF_s3 (by decide)), ⟨(by omega), by omega, by omega, by omega, by omega, by omega, by omega, by omega, by omega, by omega, by omega, by omega, by omega, by omega, by omega, by omega, by omega⟩⟩
            · skip
              refine j_aload_n hx 0 dX12_readNumber_126 rfl ?_
              refine j_iconst hx dX12_readNumber_127 ?_
              refine j_iload hx 3 dX12_readNumber_128 rfl ?_
              have f72 := zf hS_s3 ha (k := 5) rfl
              have f73 := zf hS_s3 ha (k := 0) rfl
              have f74 := zf hS_s3 ha (k := 7) rfl
              have f75 := zf hS_s3 ha (k := 21) rfl
              have f76 := zf hS_s3 ha (k := 22) rfl
              have f77 := zf hS_s3 ha (k := 23) rfl
              have f78 := zf hS_s3 ha (k := 24) rfl
              have f79 := zf hS_s3 ha (k := 38) rfl
              have f80 := zf hS_s3 ha (k := 51) rfl
              have f81 := zf hS_s3 ha (k := 52) rfl
              refine j_callV hx hG (c_X12_wrong hst a 2 ((s1 a 4))) lk_RX12_173 ha (by decide) rfl rfl rfl rfl [.int (zI 2), .int (zI ((s1 a 4)))] ⟨rfl, hG, hS_s3, ha, (by omega), (by omega)⟩ rfl rfl ⟨by decide, by decide⟩ ⟨by decide, by decide⟩ (k2 := 0) (n2 := 0) rfl rfl (Nat.le_of_ble_eq_true rfl) dX12_readNumber_130 (kVM (fun s21 hS_s21 hF_s21 q83 => ?_))
              refine j_iconst hx dX12_readNumber_133 ?_
              have f84 := zf hS_s21 ha (k := 4) rfl
              have f85 := zf hS_s21 ha (k := 5) rfl
              have f86 := zf hS_s21 ha (k := 0) rfl
              have f87 := zf hS_s21 ha (k := 3) rfl
              have f88 := zf hS_s21 ha (k := 7) rfl
              have f89 := zf hS_s21 ha (k := 21) rfl
              have f90 := zf hS_s21 ha (k := 22) rfl
              have f91 := zf hS_s21 ha (k := 23) rfl
              have f92 := zf hS_s21 ha (k := 24) rfl
              have f93 := zf hS_s21 ha (k := 38) rfl
              have f94 := zf hS_s21 ha (k := 51) rfl
              have f95 := zf hS_s21 ha (k := 52) rfl
              exact j_iret hx hq rfl (by decide) (by decide) dX12_readNumber_134 ⟨0, rfl, rfl, hS_s21, (zFr_t (zFr_t (zFr_t zFr_rf hF_s1 (by decide)) hF_s3 (by decide)) hF_s21 (by decide)), ⟨(by omega), by omega, by omega, by omega, by omega, by omega, by omega, by omega, by omega, by omega, by omega, by omega, by omega, by omega, by omega, by omega, by omega⟩⟩
        · skip
          refine j_aload_n hx 0 dX12_readNumber_52 rfl ?_
          refine g13_9 hx hG ha kf_RX12_20 dX12_readNumber_53 ?_
          refine j_aload_n hx 0 dX12_readNumber_56 rfl ?_
          refine g13_4 hx hG ha kf_RX12_143 rfl dX12_readNumber_57 ?_
          have f96 := zaI (j := ((s3 a 4)).toNat) hS0 (zr (k := 9) (t2 := 72) hG ha rfl) rfl (zlen hG (zr (k := 9) (t2 := 72) hG ha rfl) (n := 600) rfl rfl) (show 0 ≤ (s3 a 4) by omega) (by omega) rfl
          refine j_iald hx hG (zr (k := 9) (t2 := 72) hG ha rfl) (by decide) rfl (zlen hG (zr (k := 9) (t2 := 72) hG ha rfl) (n := 600) rfl rfl) (by omega) (by omega) (j := ((s3 a 4)).toNat) rfl (v := (s0 (gP G a 9) ((s3 a 4)).toNat)) (by rw [(zFr_g hF_s3 (zr (k := 9) (t2 := 72) hG ha rfl) (by decide)), (zFr_g hF_s1 (zr (k := 9) (t2 := 72) hG ha rfl) (by decide))]) dX12_readNumber_60 ?_
          refine j_callS hx (c_X12_isDigit hst ((s0 (gP G a 9) ((s3 a 4)).toNat))) lk_RX12_170 [.int (zI ((s0 (gP G a 9) ((s3 a 4)).toNat)))] ⟨rfl, hG, hS_s3, (by omega)⟩ rfl rfl ⟨by decide, by decide⟩ ⟨by decide, by decide⟩ (k2 := 0) (n2 := 0) rfl rfl (Nat.le_of_ble_eq_true rfl) dX12_readNumber_61 (kIP (fun v97 q98 => ?_))
          refine j_if_eq hx 114 dX12_readNumber_64 rfl (by omega) (fun h99 => ?_) (fun h99 => ?_)
          · skip
            refine j_iload hx 4 dX12_readNumber_114 rfl ?_
            refine j_iload_n hx 1 dX12_readNumber_116 rfl ?_
            refine j_icmp_lt hx 126 dX12_readNumber_117 rfl (by omega) (by omega) (fun h100 => ?_) (fun h100 => ?_)
            · skip
              refine j_aload_n hx 0 dX12_readNumber_126 rfl ?_
              refine j_iconst hx dX12_readNumber_127 ?_
              refine j_iload hx 3 dX12_readNumber_128 rfl ?_
              have f101 := zf hS_s3 ha (k := 5) rfl
              have f102 := zf hS_s3 ha (k := 0) rfl
              have f103 := zf hS_s3 ha (k := 7) rfl
              have f104 := zf hS_s3 ha (k := 21) rfl
              have f105 := zf hS_s3 ha (k := 22) rfl
              have f106 := zf hS_s3 ha (k := 23) rfl
              have f107 := zf hS_s3 ha (k := 24) rfl
              have f108 := zf hS_s3 ha (k := 38) rfl
              have f109 := zf hS_s3 ha (k := 51) rfl
              have f110 := zf hS_s3 ha (k := 52) rfl
              refine j_callV hx hG (c_X12_wrong hst a 2 ((s1 a 4))) lk_RX12_173 ha (by decide) rfl rfl rfl rfl [.int (zI 2), .int (zI ((s1 a 4)))] ⟨rfl, hG, hS_s3, ha, (by omega), (by omega)⟩ rfl rfl ⟨by decide, by decide⟩ ⟨by decide, by decide⟩ (k2 := 0) (n2 := 0) rfl rfl (Nat.le_of_ble_eq_true rfl) dX12_readNumber_130 (kVM (fun s22 hS_s22 hF_s22 q112 => ?_))
              refine j_iconst hx dX12_readNumber_133 ?_
              have f113 := zf hS_s22 ha (k := 4) rfl
              have f114 := zf hS_s22 ha (k := 5) rfl
              have f115 := zf hS_s22 ha (k := 0) rfl
              have f116 := zf hS_s22 ha (k := 3) rfl
              have f117 := zf hS_s22 ha (k := 7) rfl
              have f118 := zf hS_s22 ha (k := 21) rfl
              have f119 := zf hS_s22 ha (k := 22) rfl
              have f120 := zf hS_s22 ha (k := 23) rfl
              have f121 := zf hS_s22 ha (k := 24) rfl
              have f122 := zf hS_s22 ha (k := 38) rfl
              have f123 := zf hS_s22 ha (k := 51) rfl
              have f124 := zf hS_s22 ha (k := 52) rfl
              exact j_iret hx hq rfl (by decide) (by decide) dX12_readNumber_134 ⟨0, rfl, rfl, hS_s22, (zFr_t (zFr_t (zFr_t zFr_rf hF_s1 (by decide)) hF_s3 (by decide)) hF_s22 (by decide)), ⟨(by omega), by omega, by omega, by omega, by omega, by omega, by omega, by omega, by omega, by omega, by omega, by omega, by omega, by omega, by omega, by omega, by omega⟩⟩
            · skip
              refine j_iload hx 4 dX12_readNumber_120 rfl ?_
              refine j_iload_n hx 2 dX12_readNumber_122 rfl ?_
              refine j_icmp_le hx 135 dX12_readNumber_123 rfl (by omega) (by omega) (fun h125 => ?_) (fun h125 => ?_)
              · skip
                refine j_iload hx 4 dX12_readNumber_135 rfl ?_
                have f126 := zf hS_s3 ha (k := 5) rfl
                have f127 := zf hS_s3 ha (k := 0) rfl
                have f128 := zf hS_s3 ha (k := 7) rfl
                have f129 := zf hS_s3 ha (k := 21) rfl
                have f130 := zf hS_s3 ha (k := 22) rfl
                have f131 := zf hS_s3 ha (k := 23) rfl
                have f132 := zf hS_s3 ha (k := 24) rfl
                have f133 := zf hS_s3 ha (k := 38) rfl
                have f134 := zf hS_s3 ha (k := 51) rfl
                have f135 := zf hS_s3 ha (k := 52) rfl
                exact j_iret hx hq rfl (by decide) (by decide) dX12_readNumber_137 ⟨v21, rfl, rfl, hS_s3, (zFr_t (zFr_t zFr_rf hF_s1 (by decide)) hF_s3 (by decide)), ⟨(by omega), by omega, by omega, by omega, by omega, by omega, by omega, by omega, by omega, by omega, by omega, by omega, by omega, by omega, by omega, by omega, by omega⟩⟩
              · skip
                refine j_aload_n hx 0 dX12_readNumber_126 rfl ?_
                refine j_iconst hx dX12_readNumber_127 ?_
                refine j_iload hx 3 dX12_readNumber_128 rfl ?_
                have f136 := zf hS_s3 ha (k := 5) rfl
                have f137 := zf hS_s3 ha (k := 0) rfl
                have f138 := zf hS_s3 ha (k := 7) rfl
                have f139 := zf hS_s3 ha (k := 21) rfl
                have f140 := zf hS_s3 ha (k := 22) rfl
                have f141 := zf hS_s3 ha (k := 23) rfl
                have f142 := zf hS_s3 ha (k := 24) rfl
                have f143 := zf hS_s3 ha (k := 38) rfl
                have f144 := zf hS_s3 ha (k := 51) rfl
                have f145 := zf hS_s3 ha (k := 52) rfl
                refine j_callV hx hG (c_X12_wrong hst a 2 ((s1 a 4))) lk_RX12_173 ha (by decide) rfl rfl rfl rfl [.int (zI 2), .int (zI ((s1 a 4)))] ⟨rfl, hG, hS_s3, ha, (by omega), (by omega)⟩ rfl rfl ⟨by decide, by decide⟩ ⟨by decide, by decide⟩ (k2 := 0) (n2 := 0) rfl rfl (Nat.le_of_ble_eq_true rfl) dX12_readNumber_130 (kVM (fun s23 hS_s23 hF_s23 q147 => ?_))
                refine j_iconst hx dX12_readNumber_133 ?_
                have f148 := zf hS_s23 ha (k := 4) rfl
                have f149 := zf hS_s23 ha (k := 5) rfl
                have f150 := zf hS_s23 ha (k := 0) rfl
                have f151 := zf hS_s23 ha (k := 3) rfl
                have f152 := zf hS_s23 ha (k := 7) rfl
                have f153 := zf hS_s23 ha (k := 21) rfl
                have f154 := zf hS_s23 ha (k := 22) rfl
                have f155 := zf hS_s23 ha (k := 23) rfl
                have f156 := zf hS_s23 ha (k := 24) rfl
                have f157 := zf hS_s23 ha (k := 38) rfl
                have f158 := zf hS_s23 ha (k := 51) rfl
                have f159 := zf hS_s23 ha (k := 52) rfl
                exact j_iret hx hq rfl (by decide) (by decide) dX12_readNumber_134 ⟨0, rfl, rfl, hS_s23, (zFr_t (zFr_t (zFr_t zFr_rf hF_s1 (by decide)) hF_s3 (by decide)) hF_s23 (by decide)), ⟨(by omega), by omega, by omega, by omega, by omega, by omega, by omega, by omega, by omega, by omega, by omega, by omega, by omega, by omega, by omega, by omega, by omega⟩⟩
          · skip
            refine j_iload hx 4 dX12_readNumber_67 rfl ?_
            refine j_sipush hx dX12_readNumber_69 rfl ?_
            refine j_icmp_le hx 81 dX12_readNumber_72 rfl (by omega) ⟨by decide, by decide⟩ (fun h160 => ?_) (fun h160 => ?_)
            · skip
              refine j_bipush hx dX12_readNumber_81 rfl ?_
              refine j_iload hx 4 dX12_readNumber_83 rfl ?_
              refine j_imul hx (r := 10 * v21) dX12_readNumber_85 rfl ?_
              refine j_aload_n hx 0 dX12_readNumber_86 rfl ?_
              refine g13_9 hx hG ha kf_RX12_20 dX12_readNumber_87 ?_
              refine j_aload_n hx 0 dX12_readNumber_90 rfl ?_
              refine g13_4 hx hG ha kf_RX12_143 rfl dX12_readNumber_91 ?_
              refine j_iald hx hG (zr (k := 9) (t2 := 72) hG ha rfl) (by decide) rfl (zlen hG (zr (k := 9) (t2 := 72) hG ha rfl) (n := 600) rfl rfl) (by omega) (by omega) (j := ((s3 a 4)).toNat) rfl (v := (s0 (gP G a 9) ((s3 a 4)).toNat)) (by rw [(zFr_g hF_s3 (zr (k := 9) (t2 := 72) hG ha rfl) (by decide)), (zFr_g hF_s1 (zr (k := 9) (t2 := 72) hG ha rfl) (by decide))]) dX12_readNumber_94 ?_
              refine j_iadd hx (r := 10 * v21 + (s0 (gP G a 9) ((s3 a 4)).toNat)) dX12_readNumber_95 (by omega) ?_
              refine j_bipush hx dX12_readNumber_96 rfl ?_
              refine j_isub hx (r := 10 * v21 + (s0 (gP G a 9) ((s3 a 4)).toNat) - 48) dX12_readNumber_98 (by omega) ?_
              refine j_istore hx [(5, .int (zI (10 * v21 + (s0 (gP G a 9) ((s3 a 4)).toNat) - 48))), (0, .ref a), (1, .int (zI x1)), (2, .int (zI x2)), (4, .int (zI ((s1 a 4))))] dX12_readNumber_99 (by decide) rfl ?_
              refine j_aload_n hx 1 dX12_readNumber_101 rfl ?_
              refine j_dup hx dX12_readNumber_102 rfl ?_
              refine g13_4 hx hG ha kf_RX12_143 rfl dX12_readNumber_103 ?_
              refine j_iconst hx dX12_readNumber_106 ?_
              refine j_iadd hx (r := (s3 a 4) + 1) dX12_readNumber_107 (by omega) ?_
              refine p13_4 hx hG ha kf_RX12_143 dX12_readNumber_108 ?_
              obtain ⟨s24, e_s24⟩ : ∃ z, z = zU s3 a 4 ((s3 a 4) + 1) := ⟨_, rfl⟩
              rw [← e_s24]
              have hS_s24 : zSK G s24 := by rw [e_s24]; exact zSK_F hS_s3 ha rfl rfl rfl (by omega)
              refine j_goto hx 41 dX12_readNumber_111 rfl ?_
              have g161 : s24 a 4 = (s3 a 4) + 1 := (by rw [e_s24, zU_eq])
              have g162 : s24 a 0 = s3 a 0 := (by rw [e_s24, zU_at (Or.inr (by decide))])
              have f163 := zf hS_s3 ha (k := 0) rfl
              have g164 : s24 a 3 = s3 a 3 := (by rw [e_s24, zU_at (Or.inr (by decide))])
              have g165 : s24 a 5 = s3 a 5 := (by rw [e_s24, zU_at (Or.inr (by decide))])
              have f166 := zf hS_s3 ha (k := 5) rfl
              have g167 : s24 a 7 = s3 a 7 := (by rw [e_s24, zU_at (Or.inr (by decide))])
              have f168 := zf hS_s3 ha (k := 7) rfl
              have g169 : s24 a 21 = s3 a 21 := (by rw [e_s24, zU_at (Or.inr (by decide))])
              have f170 := zf hS_s3 ha (k := 21) rfl
              have g171 : s24 a 22 = s3 a 22 := (by rw [e_s24, zU_at (Or.inr (by decide))])
              have f172 := zf hS_s3 ha (k := 22) rfl
              have g173 : s24 a 23 = s3 a 23 := (by rw [e_s24, zU_at (Or.inr (by decide))])
              have f174 := zf hS_s3 ha (k := 23) rfl
              have g175 : s24 a 24 = s3 a 24 := (by rw [e_s24, zU_at (Or.inr (by decide))])
              have f176 := zf hS_s3 ha (k := 24) rfl
              have g177 : s24 a 38 = s3 a 38 := (by rw [e_s24, zU_at (Or.inr (by decide))])
              have f178 := zf hS_s3 ha (k := 38) rfl
              have g179 : s24 a 51 = s3 a 51 := (by rw [e_s24, zU_at (Or.inr (by decide))])
              have f180 := zf hS_s3 ha (k := 51) rfl
              have g181 : s24 a 52 = s3 a 52 := (by rw [e_s24, zU_at (Or.inr (by decide))])
              have f182 := zf hS_s3 ha (k := 52) rfl
              exact j_sub [1, 2, 3, 4, 0] [(0, .ref a), (1, .int (zI x1)), (2, .int (zI x2)), (4, .int (zI ((s1 a 4)))), (5, .int (zI (10 * v21 + (s0 (gP G a 9) ((s3 a 4)).toNat) - 48)))] rfl (ih_c41_2 (10 * v21 + (s0 (gP G a 9) ((s3 a 4)).toNat) - 48) s24 (by omega) (by omega) hS_s24 (zFr_u (zFr_t zFr_rf hF_s3 (by decide)) e_s24 ha (by decide)) (by omega) (by omega) (by omega) (by omega) (by omega) (by omega) (by omega) (by omega) (by omega) (by omega) (by omega) (by omega) (by omega))
            · skip
              refine j_sipush hx dX12_readNumber_75 rfl ?_
              refine j_goto hx 99 dX12_readNumber_78 rfl ?_
              refine j_istore hx [(5, .int (zI 10000)), (0, .ref a), (1, .int (zI x1)), (2, .int (zI x2)), (4, .int (zI ((s1 a 4))))] dX12_readNumber_99 (by decide) rfl ?_
              refine j_aload_n hx 1 dX12_readNumber_101 rfl ?_
              refine j_dup hx dX12_readNumber_102 rfl ?_
              refine g13_4 hx hG ha kf_RX12_143 rfl dX12_readNumber_103 ?_
              refine j_iconst hx dX12_readNumber_106 ?_
              refine j_iadd hx (r := (s3 a 4) + 1) dX12_readNumber_107 (by omega) ?_
              refine p13_4 hx hG ha kf_RX12_143 dX12_readNumber_108 ?_
              obtain ⟨s25, e_s25⟩ : ∃ z, z = zU s3 a 4 ((s3 a 4) + 1) := ⟨_, rfl⟩
              rw [← e_s25]
              have hS_s25 : zSK G s25 := by rw [e_s25]; exact zSK_F hS_s3 ha rfl rfl rfl (by omega)
              refine j_goto hx 41 dX12_readNumber_111 rfl ?_
              have g183 : s25 a 4 = (s3 a 4) + 1 := (by rw [e_s25, zU_eq])
              have g184 : s25 a 0 = s3 a 0 := (by rw [e_s25, zU_at (Or.inr (by decide))])
              have f185 := zf hS_s3 ha (k := 0) rfl
              have g186 : s25 a 3 = s3 a 3 := (by rw [e_s25, zU_at (Or.inr (by decide))])
              have g187 : s25 a 5 = s3 a 5 := (by rw [e_s25, zU_at (Or.inr (by decide))])
              have f188 := zf hS_s3 ha (k := 5) rfl
              have g189 : s25 a 7 = s3 a 7 := (by rw [e_s25, zU_at (Or.inr (by decide))])
              have f190 := zf hS_s3 ha (k := 7) rfl
              have g191 : s25 a 21 = s3 a 21 := (by rw [e_s25, zU_at (Or.inr (by decide))])
              have f192 := zf hS_s3 ha (k := 21) rfl
              have g193 : s25 a 22 = s3 a 22 := (by rw [e_s25, zU_at (Or.inr (by decide))])
              have f194 := zf hS_s3 ha (k := 22) rfl
              have g195 : s25 a 23 = s3 a 23 := (by rw [e_s25, zU_at (Or.inr (by decide))])
              have f196 := zf hS_s3 ha (k := 23) rfl
              have g197 : s25 a 24 = s3 a 24 := (by rw [e_s25, zU_at (Or.inr (by decide))])
              have f198 := zf hS_s3 ha (k := 24) rfl
              have g199 : s25 a 38 = s3 a 38 := (by rw [e_s25, zU_at (Or.inr (by decide))])
              have f200 := zf hS_s3 ha (k := 38) rfl
              have g201 : s25 a 51 = s3 a 51 := (by rw [e_s25, zU_at (Or.inr (by decide))])
              have f202 := zf hS_s3 ha (k := 51) rfl
              have g203 : s25 a 52 = s3 a 52 := (by rw [e_s25, zU_at (Or.inr (by decide))])
              have f204 := zf hS_s3 ha (k := 52) rfl
              exact j_sub [1, 2, 3, 4, 0] [(0, .ref a), (1, .int (zI x1)), (2, .int (zI x2)), (4, .int (zI ((s1 a 4)))), (5, .int (zI 10000))] rfl (ih_c41_2 10000 s25 (by omega) (by omega) hS_s25 (zFr_u (zFr_t zFr_rf hF_s3 (by decide)) e_s25 ha (by decide)) (by omega) (by omega) (by omega) (by omega) (by omega) (by omega) (by omega) (by omega) (by omega) (by omega) (by omega) (by omega) (by omega))
    refine j_if_ne hx 41 dX12_readNumber_27 rfl (by omega) (fun h205 => ?_) (fun h205 => ?_)
    · skip
      exact j_sub [3, 4, 5, 1, 0] [(0, .ref a), (1, .int (zI x1)), (2, .int (zI x2)), (4, .int (zI ((s1 a 4)))), (5, .int (zI 0))] rfl (c41_2 (2147483648 * 4) 0 s1 (by omega) (by omega) hS_s1 zFr_rf (by omega) (by omega) (by omega) (by omega) (by omega) (by omega) (by omega) (by omega) (by omega) (by omega) (by omega) (by omega) (by omega))
    · skip
      refine j_aload_n hx 3 dX12_readNumber_30 rfl ?_
      refine j_iconst hx dX12_readNumber_31 ?_
      refine j_aload_n hx 3 dX12_readNumber_32 rfl ?_
      refine g13_4 hx hG ha kf_RX12_143 rfl dX12_readNumber_33 ?_
      refine j_callV hx hG (c_X12_wrong hst a 1 ((s1 a 4))) lk_RX12_173 ha (by decide) rfl rfl rfl rfl [.int (zI 1), .int (zI ((s1 a 4)))] ⟨rfl, hG, hS_s1, ha, (by omega), (by omega)⟩ rfl rfl ⟨by decide, by decide⟩ ⟨by decide, by decide⟩ (k2 := 0) (n2 := 0) rfl rfl (Nat.le_of_ble_eq_true rfl) dX12_readNumber_36 (kVM (fun s26 hS_s26 hF_s26 q207 => ?_))
      refine j_iconst hx dX12_readNumber_39 ?_
      have f208 := zf hS_s26 ha (k := 4) rfl
      have f209 := zf hS_s26 ha (k := 5) rfl
      have f210 := zf hS_s26 ha (k := 0) rfl
      have f211 := zf hS_s26 ha (k := 3) rfl
      have f212 := zf hS_s26 ha (k := 7) rfl
      have f213 := zf hS_s26 ha (k := 21) rfl
      have f214 := zf hS_s26 ha (k := 22) rfl
      have f215 := zf hS_s26 ha (k := 23) rfl
      have f216 := zf hS_s26 ha (k := 24) rfl
      have f217 := zf hS_s26 ha (k := 38) rfl
      have f218 := zf hS_s26 ha (k := 51) rfl
      have f219 := zf hS_s26 ha (k := 52) rfl
      exact j_iret hx hq rfl (by decide) (by decide) dX12_readNumber_40 ⟨0, rfl, rfl, hS_s26, (zFr_t (zFr_t zFr_rf hF_s1 (by decide)) hF_s26 (by decide)), ⟨(by omega), by omega, by omega, by omega, by omega, by omega, by omega, by omega, by omega, by omega, by omega, by omega, by omega, by omega, by omega, by omega, by omega⟩⟩
  · skip
    refine j_iconst hx dX12_readNumber_7 ?_
    have f220 := zf hS0 ha (k := 4) rfl
    have f221 := zf hS0 ha (k := 5) rfl
    have f222 := zf hS0 ha (k := 3) rfl
    have f223 := zf hS0 ha (k := 0) rfl
    have f224 := zf hS0 ha (k := 7) rfl
    have f225 := zf hS0 ha (k := 21) rfl
    have f226 := zf hS0 ha (k := 22) rfl
    have f227 := zf hS0 ha (k := 23) rfl
    have f228 := zf hS0 ha (k := 24) rfl
    have f229 := zf hS0 ha (k := 38) rfl
    have f230 := zf hS0 ha (k := 51) rfl
    have f231 := zf hS0 ha (k := 52) rfl
    exact j_iret hx hq rfl (by decide) (by decide) dX12_readNumber_8 ⟨0, rfl, rfl, hS0, zFr_rf, ⟨(by omega), by omega, by omega, by omega, by omega, by omega, by omega, by omega, by omega, by omega, by omega, by omega, by omega, by omega, by omega, by omega, by omega⟩⟩

set_option maxHeartbeats 1200000 in
set_option maxRecDepth 20000 in
theorem c_X12_readNumber_q {E : zE} {l : Launch} (hst : l.stackTraces = false) (a : Nat) (x1 : Int) (x2 : Int) : Con E l yX12_readNumber cX12_readNumber 6 (some .int) { frames := 1, cells := 0, slots := 0, locals := 22 } (fun G s vs => vs = [.ref a, .int (zI x1), .int (zI x2)] ∧ zGK G ∧ zSK G s ∧ (gT G a = 13) ∧ (0 ≤ x1 ∧ x1 ≤ 0) ∧ ((-1) ≤ x2 ∧ x2 ≤ 59) ∧ (s a 4 ≤ s a 3 + 2)) (fun G s _ => pI (fun r G2 s2 => G2 = G ∧ zSK G s2 ∧ zFr [13] G s s2 ∧ (0 ≤ r ∧ r ≤ 59) ∧ s a 4 ≤ s2 a 4 ∧ s a 5 ≤ s2 a 5 ∧ x1 ≤ r + 10000 * (s2 a 5 + 1) ∧ s2 a 4 ≤ s a 3 + 2 ∧ s2 a 4 ≤ s a 3 + 2 * (s2 a 5 + 1) ∧ s2 a 0 = s a 0 ∧ s2 a 3 = s a 3 ∧ s2 a 7 = s a 7 ∧ s2 a 21 = s a 21 ∧ s2 a 22 = s a 22 ∧ s2 a 23 = s a 23 ∧ s2 a 24 = s a 24 ∧ s2 a 38 = s a 38 ∧ s2 a 51 = s a 51 ∧ s2 a 52 = s a 52)) := by
  refine Con.mk hst (by decide) (fun G s vs h => by rw [h.1]; exact Nat.le_of_ble_eq_true rfl) ?_
  rintro X G s0 vs ⟨rfl, hG, hS0, ha, hx1, hx2, e0⟩ rfl hx hq
  show JJ X E 6 G s0 0 0 [(0, .ref a), (1, .int (zI x1)), (2, .int (zI x2))] 0 []
  refine j_aload_n hx 0 dX12_readNumber_0 rfl ?_
  refine j_callV hx hG (c_X12_fine hst a) lk_RX12_166 ha (by decide) rfl rfl rfl rfl [] ⟨rfl, hG, hS0, ha⟩ rfl rfl ⟨by decide, by decide⟩ ⟨by decide, by decide⟩ (k2 := 0) (n2 := 0) rfl rfl (Nat.le_of_ble_eq_true rfl) dX12_readNumber_1 (kIP (fun v1 q2 => ?_))
  refine j_if_ne hx 9 dX12_readNumber_4 rfl (by omega) (fun h3 => ?_) (fun h3 => ?_)
  · skip
    refine j_aload_n hx 0 dX12_readNumber_9 rfl ?_
    have f4 := zf hS0 ha (k := 4) rfl
    have f5 := zf hS0 ha (k := 3) rfl
    have f6 := zf hS0 ha (k := 0) rfl
    have f7 := zf hS0 ha (k := 5) rfl
    have f8 := zf hS0 ha (k := 7) rfl
    have f9 := zf hS0 ha (k := 21) rfl
    have f10 := zf hS0 ha (k := 22) rfl
    have f11 := zf hS0 ha (k := 23) rfl
    have f12 := zf hS0 ha (k := 24) rfl
    have f13 := zf hS0 ha (k := 38) rfl
    have f14 := zf hS0 ha (k := 51) rfl
    have f15 := zf hS0 ha (k := 52) rfl
    refine j_callV hx hG (c_X12_here hst a) lk_RX12_149 ha (by decide) rfl rfl rfl rfl [] ⟨rfl, hG, hS0, ha, (by omega)⟩ rfl rfl ⟨by decide, by decide⟩ ⟨by decide, by decide⟩ (k2 := 0) (n2 := 0) rfl rfl (Nat.le_of_ble_eq_true rfl) dX12_readNumber_10 (kIM (fun v16 s1 hS_s1 hF_s1 q17 => ?_))
    refine j_istore_n hx [(3, .int (zI v16)), (0, .ref a), (1, .int (zI x1)), (2, .int (zI x2))] dX12_readNumber_13 (by decide) rfl ?_
    refine j_aload_n hx 1 dX12_readNumber_14 rfl ?_
    have f18 := zf hS_s1 ha (k := 4) rfl
    refine g13_4 hx hG ha kf_RX12_143 rfl dX12_readNumber_15 ?_
    refine j_istore hx [(4, .int (zI ((s1 a 4)))), (3, .int (zI v16)), (0, .ref a), (1, .int (zI x1)), (2, .int (zI x2))] dX12_readNumber_18 (by decide) rfl ?_
    refine j_iconst hx dX12_readNumber_20 ?_
    refine j_istore hx [(5, .int (zI 0)), (4, .int (zI ((s1 a 4)))), (3, .int (zI v16)), (0, .ref a), (1, .int (zI x1)), (2, .int (zI x2))] dX12_readNumber_21 (by decide) rfl ?_
    refine j_iload_n hx 2 dX12_readNumber_23 rfl ?_
    refine j_callS hx (c_X12_isDigit hst v16) lk_RX12_170 [.int (zI v16)] ⟨rfl, hG, hS_s1, (by omega)⟩ rfl rfl ⟨by decide, by decide⟩ ⟨by decide, by decide⟩ (k2 := 0) (n2 := 0) rfl rfl (Nat.le_of_ble_eq_true rfl) dX12_readNumber_24 (kIP (fun v19 q20 => ?_))
    have f22 := zf hS_s1 ha (k := 0) rfl
    have f23 := zf hS_s1 ha (k := 3) rfl
    have f24 := zf hS_s1 ha (k := 5) rfl
    have f25 := zf hS_s1 ha (k := 7) rfl
    have f26 := zf hS_s1 ha (k := 21) rfl
    have f27 := zf hS_s1 ha (k := 22) rfl
    have f28 := zf hS_s1 ha (k := 23) rfl
    have f29 := zf hS_s1 ha (k := 24) rfl
    have f30 := zf hS_s1 ha (k := 38) rfl
    have f31 := zf hS_s1 ha (k := 51) rfl
    have f32 := zf hS_s1 ha (k := 52) rfl
    have c41_2 : ∀ (m_c41_2 : Nat) (v21 : Int) (s3 : zS), 1000 - s3 a 4 < m_c41_2 → (0 ≤ v21 ∧ v21 ≤ 100100) → (zSK G s3) → (zFr [13] G s1 s3) → (s3 a 0 = s1 a 0) → (s3 a 3 = s1 a 3) → (s3 a 5 = s1 a 5) → (s3 a 7 = s1 a 7) → (s3 a 21 = s1 a 21) → (s3 a 22 = s1 a 22) → (s3 a 23 = s1 a 23) → (s3 a 24 = s1 a 24) → (s3 a 38 = s1 a 38) → (s3 a 51 = s1 a 51) → (s3 a 52 = s1 a 52) → (s1 a 4 ≤ s3 a 4) → (s3 a 4 ≤ s3 a 3) → JJ X E 6 G s3 0 0 [(0, .ref a), (1, .int (zI x1)), (2, .int (zI x2)), (4, .int (zI ((s1 a 4)))), (5, .int (zI v21))] 41 [] := by
      intro m_c41_2
      induction m_c41_2 with
      | zero => intro v21 s3 hm_c41_2 fA4 hS_s3 hF_s3 fA7 fA8 fA9 fA10 fA11 fA12 fA13 fA14 fA15 fA16 fA17 fA18 fA19; exfalso; omega
      | succ m_c41_2 ih_c41_2 => 
        intro v21 s3 hm_c41_2 fA4 hS_s3 hF_s3 fA7 fA8 fA9 fA10 fA11 fA12 fA13 fA14 fA15 fA16 fA17 fA18 fA19
        refine j_aload_n hx 0 dX12_readNumber_41 rfl ?_
        have f33 := zf hS_s3 ha (k := 4) rfl
        refine g13_4 hx hG ha kf_RX12_143 rfl dX12_readNumber_42 ?_
        refine j_aload_n hx 0 dX12_readNumber_45 rfl ?_
        have f34 := zf hS_s3 ha (k := 3) rfl
        refine g13_3 hx hG ha kf_RX12_146 rfl dX12_readNumber_46 ?_
        refine j_icmp_ge hx 114 dX12_readNumber_49 rfl (by omega) (by omega) (fun h35 => ?_) (fun h35 => ?_)
        · skip
          refine j_iload hx 4 dX12_readNumber_114 rfl ?_
          refine j_iload_n hx 1 dX12_readNumber_116 rfl ?_
          refine j_icmp_lt hx 126 dX12_readNumber_117 rfl (by omega) (by omega) (fun h36 => absurd h36 (by omega)) (fun h36 => ?_)
          refine j_iload hx 4 dX12_readNumber_120 rfl ?_
          refine j_iload_n hx 2 dX12_readNumber_122 rfl ?_
          refine j_icmp_le hx 135 dX12_readNumber_123 rfl (by omega) (by omega) (fun h37 => ?_) (fun h37 => ?_)
          · skip
            refine j_iload hx 4 dX12_readNumber_135 rfl ?_
            have f38 := zf hS_s3 ha (k := 5) rfl
            have f39 := zf hS_s3 ha (k := 0) rfl
            have f40 := zf hS_s3 ha (k := 7) rfl
            have f41 := zf hS_s3 ha (k := 21) rfl
            have f42 := zf hS_s3 ha (k := 22) rfl
            have f43 := zf hS_s3 ha (k := 23) rfl
            have f44 := zf hS_s3 ha (k := 24) rfl
            have f45 := zf hS_s3 ha (k := 38) rfl
            have f46 := zf hS_s3 ha (k := 51) rfl
            have f47 := zf hS_s3 ha (k := 52) rfl
            exact j_iret hx hq rfl (by decide) (by decide) dX12_readNumber_137 ⟨v21, rfl, rfl, hS_s3, (zFr_t (zFr_t zFr_rf hF_s1 (by decide)) hF_s3 (by decide)), ⟨(by omega), by omega, by omega, by omega, by omega, by omega, by omega, by omega, by omega, by omega, by omega, by omega, by omega, by omega, by omega, by omega⟩⟩
          · skip
            refine j_aload_n hx 0 dX12_readNumber_126 rfl ?_
            refine j_iconst hx dX12_readNumber_127 ?_
            refine j_iload hx 3 dX12_readNumber_128 rfl ?_
            have f48 := zf hS_s3 ha (k := 5) rfl
            have f49 := zf hS_s3 ha (k := 0) rfl
            have f50 := zf hS_s3 ha (k := 7) rfl
            have f51 := zf hS_s3 ha (k := 21) rfl
            have f52 := zf hS_s3 ha (k := 22) rfl
            have f53 := zf hS_s3 ha (k := 23) rfl
            have f54 := zf hS_s3 ha (k := 24) rfl
            have f55 := zf hS_s3 ha (k := 38) rfl
            have f56 := zf hS_s3 ha (k := 51) rfl
            have f57 := zf hS_s3 ha (k := 52) rfl
            refine j_callV hx hG (c_X12_wrong hst a 2 ((s1 a 4))) lk_RX12_173 ha (by decide) rfl rfl rfl rfl [.int (zI 2), .int (zI ((s1 a 4)))] ⟨rfl, hG, hS_s3, ha, (by omega), (by omega)⟩ rfl rfl ⟨by decide, by decide⟩ ⟨by decide, by decide⟩ (k2 := 0) (n2 := 0) rfl rfl (Nat.le_of_ble_eq_true rfl) dX12_readNumber_130 (kVM (fun s20 hS_s20 hF_s20 q59 => ?_))
            refine j_iconst hx dX12_readNumber_133 ?_
            have f60 := zf hS_s20 ha (k := 4) rfl
            have f61 := zf hS_s20 ha (k := 5) rfl
            have f62 := zf hS_s20 ha (k := 0) rfl
            have f63 := zf hS_s20 ha (k := 3) rfl
            have f64 := zf hS_s20 ha (k := 7) rfl
            have f65 := zf hS_s20 ha (k := 21) rfl
            have f66 := zf hS_s20 ha (k := 22) rfl
            have f67 := zf hS_s20 ha (k := 23) rfl
            have f68 := zf hS_s20 ha (k := 24) rfl
            have f69 := zf hS_s20 ha (k := 38) rfl
            have f70 := zf hS_s20 ha (k := 51) rfl
            have f71 := zf hS_s20 ha (k := 52) rfl
            exact j_iret hx hq rfl (by decide) (by decide) dX12_readNumber_134 ⟨0, rfl, rfl, hS_s20, (zFr_t (zFr_t (zFr_t zFr_rf hF_s1 (by decide)) hF_s3 (by decide)) hF_s20 (by decide)), ⟨(by omega), by omega, by omega, by omega, by omega, by omega, by omega, by omega, by omega, by omega, by omega, by omega, by omega, by omega, by omega, by omega⟩⟩
        · skip
          refine j_aload_n hx 0 dX12_readNumber_52 rfl ?_
          refine g13_9 hx hG ha kf_RX12_20 dX12_readNumber_53 ?_
          refine j_aload_n hx 0 dX12_readNumber_56 rfl ?_
          refine g13_4 hx hG ha kf_RX12_143 rfl dX12_readNumber_57 ?_
          have f72 := zaI (j := ((s3 a 4)).toNat) hS0 (zr (k := 9) (t2 := 72) hG ha rfl) rfl (zlen hG (zr (k := 9) (t2 := 72) hG ha rfl) (n := 600) rfl rfl) (show 0 ≤ (s3 a 4) by omega) (by omega) rfl
          refine j_iald hx hG (zr (k := 9) (t2 := 72) hG ha rfl) (by decide) rfl (zlen hG (zr (k := 9) (t2 := 72) hG ha rfl) (n := 600) rfl rfl) (by omega) (by omega) (j := ((s3 a 4)).toNat) rfl (v := (s0 (gP G a 9) ((s3 a 4)).toNat)) (by rw [(zFr_g hF_s3 (zr (k := 9) (t2 := 72) hG ha rfl) (by decide)), (zFr_g hF_s1 (zr (k := 9) (t2 := 72) hG ha rfl) (by decide))]) dX12_readNumber_60 ?_
          refine j_callS hx (c_X12_isDigit hst ((s0 (gP G a 9) ((s3 a 4)).toNat))) lk_RX12_170 [.int (zI ((s0 (gP G a 9) ((s3 a 4)).toNat)))] ⟨rfl, hG, hS_s3, (by omega)⟩ rfl rfl ⟨by decide, by decide⟩ ⟨by decide, by decide⟩ (k2 := 0) (n2 := 0) rfl rfl (Nat.le_of_ble_eq_true rfl) dX12_readNumber_61 (kIP (fun v73 q74 => ?_))
          refine j_if_eq hx 114 dX12_readNumber_64 rfl (by omega) (fun h75 => ?_) (fun h75 => ?_)
          · skip
            refine j_iload hx 4 dX12_readNumber_114 rfl ?_
            refine j_iload_n hx 1 dX12_readNumber_116 rfl ?_
            refine j_icmp_lt hx 126 dX12_readNumber_117 rfl (by omega) (by omega) (fun h76 => absurd h76 (by omega)) (fun h76 => ?_)
            refine j_iload hx 4 dX12_readNumber_120 rfl ?_
            refine j_iload_n hx 2 dX12_readNumber_122 rfl ?_
            refine j_icmp_le hx 135 dX12_readNumber_123 rfl (by omega) (by omega) (fun h77 => ?_) (fun h77 => ?_)
            · skip
              refine j_iload hx 4 dX12_readNumber_135 rfl ?_
              have f78 := zf hS_s3 ha (k := 5) rfl
              have f79 := zf hS_s3 ha (k := 0) rfl
              have f80 := zf hS_s3 ha (k := 7) rfl
              have f81 := zf hS_s3 ha (k := 21) rfl
              have f82 := zf hS_s3 ha (k := 22) rfl
              have f83 := zf hS_s3 ha (k := 23) rfl
              have f84 := zf hS_s3 ha (k := 24) rfl
              have f85 := zf hS_s3 ha (k := 38) rfl
              have f86 := zf hS_s3 ha (k := 51) rfl
              have f87 := zf hS_s3 ha (k := 52) rfl
              exact j_iret hx hq rfl (by decide) (by decide) dX12_readNumber_137 ⟨v21, rfl, rfl, hS_s3, (zFr_t (zFr_t zFr_rf hF_s1 (by decide)) hF_s3 (by decide)), ⟨(by omega), by omega, by omega, by omega, by omega, by omega, by omega, by omega, by omega, by omega, by omega, by omega, by omega, by omega, by omega, by omega⟩⟩
            · skip
              refine j_aload_n hx 0 dX12_readNumber_126 rfl ?_
              refine j_iconst hx dX12_readNumber_127 ?_
              refine j_iload hx 3 dX12_readNumber_128 rfl ?_
              have f88 := zf hS_s3 ha (k := 5) rfl
              have f89 := zf hS_s3 ha (k := 0) rfl
              have f90 := zf hS_s3 ha (k := 7) rfl
              have f91 := zf hS_s3 ha (k := 21) rfl
              have f92 := zf hS_s3 ha (k := 22) rfl
              have f93 := zf hS_s3 ha (k := 23) rfl
              have f94 := zf hS_s3 ha (k := 24) rfl
              have f95 := zf hS_s3 ha (k := 38) rfl
              have f96 := zf hS_s3 ha (k := 51) rfl
              have f97 := zf hS_s3 ha (k := 52) rfl
              refine j_callV hx hG (c_X12_wrong hst a 2 ((s1 a 4))) lk_RX12_173 ha (by decide) rfl rfl rfl rfl [.int (zI 2), .int (zI ((s1 a 4)))] ⟨rfl, hG, hS_s3, ha, (by omega), (by omega)⟩ rfl rfl ⟨by decide, by decide⟩ ⟨by decide, by decide⟩ (k2 := 0) (n2 := 0) rfl rfl (Nat.le_of_ble_eq_true rfl) dX12_readNumber_130 (kVM (fun s21 hS_s21 hF_s21 q99 => ?_))
              refine j_iconst hx dX12_readNumber_133 ?_
              have f100 := zf hS_s21 ha (k := 4) rfl
              have f101 := zf hS_s21 ha (k := 5) rfl
              have f102 := zf hS_s21 ha (k := 0) rfl
              have f103 := zf hS_s21 ha (k := 3) rfl
              have f104 := zf hS_s21 ha (k := 7) rfl
              have f105 := zf hS_s21 ha (k := 21) rfl
              have f106 := zf hS_s21 ha (k := 22) rfl
              have f107 := zf hS_s21 ha (k := 23) rfl
              have f108 := zf hS_s21 ha (k := 24) rfl
              have f109 := zf hS_s21 ha (k := 38) rfl
              have f110 := zf hS_s21 ha (k := 51) rfl
              have f111 := zf hS_s21 ha (k := 52) rfl
              exact j_iret hx hq rfl (by decide) (by decide) dX12_readNumber_134 ⟨0, rfl, rfl, hS_s21, (zFr_t (zFr_t (zFr_t zFr_rf hF_s1 (by decide)) hF_s3 (by decide)) hF_s21 (by decide)), ⟨(by omega), by omega, by omega, by omega, by omega, by omega, by omega, by omega, by omega, by omega, by omega, by omega, by omega, by omega, by omega, by omega⟩⟩
          · skip
            refine j_iload hx 4 dX12_readNumber_67 rfl ?_
            refine j_sipush hx dX12_readNumber_69 rfl ?_
            refine j_icmp_le hx 81 dX12_readNumber_72 rfl (by omega) ⟨by decide, by decide⟩ (fun h112 => ?_) (fun h112 => ?_)
            · skip
              refine j_bipush hx dX12_readNumber_81 rfl ?_
              refine j_iload hx 4 dX12_readNumber_83 rfl ?_
              refine j_imul hx (r := 10 * v21) dX12_readNumber_85 rfl ?_
              refine j_aload_n hx 0 dX12_readNumber_86 rfl ?_
              refine g13_9 hx hG ha kf_RX12_20 dX12_readNumber_87 ?_
              refine j_aload_n hx 0 dX12_readNumber_90 rfl ?_
              refine g13_4 hx hG ha kf_RX12_143 rfl dX12_readNumber_91 ?_
              refine j_iald hx hG (zr (k := 9) (t2 := 72) hG ha rfl) (by decide) rfl (zlen hG (zr (k := 9) (t2 := 72) hG ha rfl) (n := 600) rfl rfl) (by omega) (by omega) (j := ((s3 a 4)).toNat) rfl (v := (s0 (gP G a 9) ((s3 a 4)).toNat)) (by rw [(zFr_g hF_s3 (zr (k := 9) (t2 := 72) hG ha rfl) (by decide)), (zFr_g hF_s1 (zr (k := 9) (t2 := 72) hG ha rfl) (by decide))]) dX12_readNumber_94 ?_
              refine j_iadd hx (r := 10 * v21 + (s0 (gP G a 9) ((s3 a 4)).toNat)) dX12_readNumber_95 (by omega) ?_
              refine j_bipush hx dX12_readNumber_96 rfl ?_
              refine j_isub hx (r := 10 * v21 + (s0 (gP G a 9) ((s3 a 4)).toNat) - 48) dX12_readNumber_98 (by omega) ?_
              refine j_istore hx [(5, .int (zI (10 * v21 + (s0 (gP G a 9) ((s3 a 4)).toNat) - 48))), (0, .ref a), (1, .int (zI x1)), (2, .int (zI x2)), (4, .int (zI ((s1 a 4))))] dX12_readNumber_99 (by decide) rfl ?_
              refine j_aload_n hx 1 dX12_readNumber_101 rfl ?_
              refine j_dup hx dX12_readNumber_102 rfl ?_
              refine g13_4 hx hG ha kf_RX12_143 rfl dX12_readNumber_103 ?_
              refine j_iconst hx dX12_readNumber_106 ?_
              refine j_iadd hx (r := (s3 a 4) + 1) dX12_readNumber_107 (by omega) ?_
              refine p13_4 hx hG ha kf_RX12_143 dX12_readNumber_108 ?_
              obtain ⟨s22, e_s22⟩ : ∃ z, z = zU s3 a 4 ((s3 a 4) + 1) := ⟨_, rfl⟩
              rw [← e_s22]
              have hS_s22 : zSK G s22 := by rw [e_s22]; exact zSK_F hS_s3 ha rfl rfl rfl (by omega)
              refine j_goto hx 41 dX12_readNumber_111 rfl ?_
              have g113 : s22 a 4 = (s3 a 4) + 1 := (by rw [e_s22, zU_eq])
              have g114 : s22 a 0 = s3 a 0 := (by rw [e_s22, zU_at (Or.inr (by decide))])
              have f115 := zf hS_s3 ha (k := 0) rfl
              have g116 : s22 a 3 = s3 a 3 := (by rw [e_s22, zU_at (Or.inr (by decide))])
              have g117 : s22 a 5 = s3 a 5 := (by rw [e_s22, zU_at (Or.inr (by decide))])
              have f118 := zf hS_s3 ha (k := 5) rfl
              have g119 : s22 a 7 = s3 a 7 := (by rw [e_s22, zU_at (Or.inr (by decide))])
              have f120 := zf hS_s3 ha (k := 7) rfl
              have g121 : s22 a 21 = s3 a 21 := (by rw [e_s22, zU_at (Or.inr (by decide))])
              have f122 := zf hS_s3 ha (k := 21) rfl
              have g123 : s22 a 22 = s3 a 22 := (by rw [e_s22, zU_at (Or.inr (by decide))])
              have f124 := zf hS_s3 ha (k := 22) rfl
              have g125 : s22 a 23 = s3 a 23 := (by rw [e_s22, zU_at (Or.inr (by decide))])
              have f126 := zf hS_s3 ha (k := 23) rfl
              have g127 : s22 a 24 = s3 a 24 := (by rw [e_s22, zU_at (Or.inr (by decide))])
              have f128 := zf hS_s3 ha (k := 24) rfl
              have g129 : s22 a 38 = s3 a 38 := (by rw [e_s22, zU_at (Or.inr (by decide))])
              have f130 := zf hS_s3 ha (k := 38) rfl
              have g131 : s22 a 51 = s3 a 51 := (by rw [e_s22, zU_at (Or.inr (by decide))])
              have f132 := zf hS_s3 ha (k := 51) rfl
              have g133 : s22 a 52 = s3 a 52 := (by rw [e_s22, zU_at (Or.inr (by decide))])
              have f134 := zf hS_s3 ha (k := 52) rfl
              exact j_sub [1, 2, 3, 4, 0] [(0, .ref a), (1, .int (zI x1)), (2, .int (zI x2)), (4, .int (zI ((s1 a 4)))), (5, .int (zI (10 * v21 + (s0 (gP G a 9) ((s3 a 4)).toNat) - 48)))] rfl (ih_c41_2 (10 * v21 + (s0 (gP G a 9) ((s3 a 4)).toNat) - 48) s22 (by omega) (by omega) hS_s22 (zFr_u (zFr_t zFr_rf hF_s3 (by decide)) e_s22 ha (by decide)) (by omega) (by omega) (by omega) (by omega) (by omega) (by omega) (by omega) (by omega) (by omega) (by omega) (by omega) (by omega) (by omega))
            · skip
              refine j_sipush hx dX12_readNumber_75 rfl ?_
              refine j_goto hx 99 dX12_readNumber_78 rfl ?_
              refine j_istore hx [(5, .int (zI 10000)), (0, .ref a), (1, .int (zI x1)), (2, .int (zI x2)), (4, .int (zI ((s1 a 4))))] dX12_readNumber_99 (by decide) rfl ?_
              refine j_aload_n hx 1 dX12_readNumber_101 rfl ?_
              refine j_dup hx dX12_readNumber_102 rfl ?_
              refine g13_4 hx hG ha kf_RX12_143 rfl dX12_readNumber_103 ?_
              refine j_iconst hx dX12_readNumber_106 ?_
              refine j_iadd hx (r := (s3 a 4) + 1) dX12_readNumber_107 (by omega) ?_
              refine p13_4 hx hG ha kf_RX12_143 dX12_readNumber_108 ?_
              obtain ⟨s23, e_s23⟩ : ∃ z, z = zU s3 a 4 ((s3 a 4) + 1) := ⟨_, rfl⟩
              rw [← e_s23]
              have hS_s23 : zSK G s23 := by rw [e_s23]; exact zSK_F hS_s3 ha rfl rfl rfl (by omega)
              refine j_goto hx 41 dX12_readNumber_111 rfl ?_
              have g135 : s23 a 4 = (s3 a 4) + 1 := (by rw [e_s23, zU_eq])
              have g136 : s23 a 0 = s3 a 0 := (by rw [e_s23, zU_at (Or.inr (by decide))])
              have f137 := zf hS_s3 ha (k := 0) rfl
              have g138 : s23 a 3 = s3 a 3 := (by rw [e_s23, zU_at (Or.inr (by decide))])
              have g139 : s23 a 5 = s3 a 5 := (by rw [e_s23, zU_at (Or.inr (by decide))])
              have f140 := zf hS_s3 ha (k := 5) rfl
              have g141 : s23 a 7 = s3 a 7 := (by rw [e_s23, zU_at (Or.inr (by decide))])
              have f142 := zf hS_s3 ha (k := 7) rfl
              have g143 : s23 a 21 = s3 a 21 := (by rw [e_s23, zU_at (Or.inr (by decide))])
              have f144 := zf hS_s3 ha (k := 21) rfl
              have g145 : s23 a 22 = s3 a 22 := (by rw [e_s23, zU_at (Or.inr (by decide))])
              have f146 := zf hS_s3 ha (k := 22) rfl
              have g147 : s23 a 23 = s3 a 23 := (by rw [e_s23, zU_at (Or.inr (by decide))])
              have f148 := zf hS_s3 ha (k := 23) rfl
              have g149 : s23 a 24 = s3 a 24 := (by rw [e_s23, zU_at (Or.inr (by decide))])
              have f150 := zf hS_s3 ha (k := 24) rfl
              have g151 : s23 a 38 = s3 a 38 := (by rw [e_s23, zU_at (Or.inr (by decide))])
              have f152 := zf hS_s3 ha (k := 38) rfl
              have g153 : s23 a 51 = s3 a 51 := (by rw [e_s23, zU_at (Or.inr (by decide))])
              have f154 := zf hS_s3 ha (k := 51) rfl
              have g155 : s23 a 52 = s3 a 52 := (by rw [e_s23, zU_at (Or.inr (by decide))])
              have f156 := zf hS_s3 ha (k := 52) rfl
              exact j_sub [1, 2, 3, 4, 0] [(0, .ref a), (1, .int (zI x1)), (2, .int (zI x2)), (4, .int (zI ((s1 a 4)))), (5, .int (zI 10000))] rfl (ih_c41_2 10000 s23 (by omega) (by omega) hS_s23 (zFr_u (zFr_t zFr_rf hF_s3 (by decide)) e_s23 ha (by decide)) (by omega) (by omega) (by omega) (by omega) (by omega) (by omega) (by omega) (by omega) (by omega) (by omega) (by omega) (by omega) (by omega))
    refine j_if_ne hx 41 dX12_readNumber_27 rfl (by omega) (fun h157 => ?_) (fun h157 => ?_)
    · skip
      exact j_sub [3, 4, 5, 1, 0] [(0, .ref a), (1, .int (zI x1)), (2, .int (zI x2)), (4, .int (zI ((s1 a 4)))), (5, .int (zI 0))] rfl (c41_2 (2147483648 * 4) 0 s1 (by omega) (by omega) hS_s1 zFr_rf (by omega) (by omega) (by omega) (by omega) (by omega) (by omega) (by omega) (by omega) (by omega) (by omega) (by omega) (by omega) (by omega))
    · skip
      refine j_aload_n hx 3 dX12_readNumber_30 rfl ?_
      refine j_iconst hx dX12_readNumber_31 ?_
      refine j_aload_n hx 3 dX12_readNumber_32 rfl ?_
      refine g13_4 hx hG ha kf_RX12_143 rfl dX12_readNumber_33 ?_
      refine j_callV hx hG (c_X12_wrong hst a 1 ((s1 a 4))) lk_RX12_173 ha (by decide) rfl rfl rfl rfl [.int (zI 1), .int (zI ((s1 a 4)))] ⟨rfl, hG, hS_s1, ha, (by omega), (by omega)⟩ rfl rfl ⟨by decide, by decide⟩ ⟨by decide, by decide⟩ (k2 := 0) (n2 := 0) rfl rfl (Nat.le_of_ble_eq_true rfl) dX12_readNumber_36 (kVM (fun s24 hS_s24 hF_s24 q159 => ?_))
      refine j_iconst hx dX12_readNumber_39 ?_
      have f160 := zf hS_s24 ha (k := 4) rfl
      have f161 := zf hS_s24 ha (k := 5) rfl
      have f162 := zf hS_s24 ha (k := 0) rfl
      have f163 := zf hS_s24 ha (k := 3) rfl
      have f164 := zf hS_s24 ha (k := 7) rfl
      have f165 := zf hS_s24 ha (k := 21) rfl
      have f166 := zf hS_s24 ha (k := 22) rfl
      have f167 := zf hS_s24 ha (k := 23) rfl
      have f168 := zf hS_s24 ha (k := 24) rfl
      have f169 := zf hS_s24 ha (k := 38) rfl
      have f170 := zf hS_s24 ha (k := 51) rfl
      have f171 := zf hS_s24 ha (k := 52) rfl
      exact j_iret hx hq rfl (by decide) (by decide) dX12_readNumber_40 ⟨0, rfl, rfl, hS_s24, (zFr_t (zFr_t zFr_rf hF_s1 (by decide)) hF_s24 (by decide)), ⟨(by omega), by omega, by omega, by omega, by omega, by omega, by omega, by omega, by omega, by omega, by omega, by omega, by omega, by omega, by omega, by omega⟩⟩
  · skip
    refine j_iconst hx dX12_readNumber_7 ?_
    have f172 := zf hS0 ha (k := 4) rfl
    have f173 := zf hS0 ha (k := 5) rfl
    have f174 := zf hS0 ha (k := 3) rfl
    have f175 := zf hS0 ha (k := 0) rfl
    have f176 := zf hS0 ha (k := 7) rfl
    have f177 := zf hS0 ha (k := 21) rfl
    have f178 := zf hS0 ha (k := 22) rfl
    have f179 := zf hS0 ha (k := 23) rfl
    have f180 := zf hS0 ha (k := 24) rfl
    have f181 := zf hS0 ha (k := 38) rfl
    have f182 := zf hS0 ha (k := 51) rfl
    have f183 := zf hS0 ha (k := 52) rfl
    exact j_iret hx hq rfl (by decide) (by decide) dX12_readNumber_8 ⟨0, rfl, rfl, hS0, zFr_rf, ⟨(by omega), by omega, by omega, by omega, by omega, by omega, by omega, by omega, by omega, by omega, by omega, by omega, by omega, by omega, by omega, by omega⟩⟩

theorem lk_RX12_277 : LkV RX12 277 RX12 yX12_emit cX12_emit 4 none 3 := ⟨km_RX12_277, ki_yX12_emit, ks_RX12_yX12_emit, kn_RX12, kc_yX12_emit, rfl, by decide +kernel, by decide +kernel, by decide +kernel⟩
set_option maxHeartbeats 1200000 in
set_option maxRecDepth 20000 in
theorem c_X12_readHeld {E : zE} {l : Launch} (hst : l.stackTraces = false) (a : Nat) (x1 : Int) (x2 : Int) : Con E l yX12_readHeld cX12_readHeld 5 none { frames := 2, cells := 0, slots := 0, locals := 47 } (fun G s vs => vs = [.ref a, .int (zI x1), .int (zI x2)] ∧ zGK G ∧ zSK G s ∧ (gT G a = 13) ∧ ((-1) ≤ x1 ∧ x1 ≤ 9) ∧ (6 ≤ x2 ∧ x2 ≤ 10) ∧ (s a 3 ≤ 150) ∧ (s a 4 ≤ s a 3 + 2) ∧ (s a 5 = -1 → s a 38 + 1 ≤ s a 4) ∧ (zNv (s a 5) (s (gP G a 31)) (s (gP G a 32)) (s a 38)) ∧ (x1 = -1 ∨ 6 ≤ x1)) (fun G s _ => pV (fun G2 s2 => G2 = G ∧ zSK G s2 ∧ zFr [13, 88, 89, 90] G s s2 ∧ s a 4 ≤ s2 a 4 ∧ s a 5 ≤ s2 a 5 ∧ s2 a 4 ≤ s a 3 + 2 ∧ (s2 a 5 = -1 → (zRp (s2 (gP G a 31)) 0 (s2 a 38).toNat = zRp (s (gP G a 31)) 0 (s a 38).toNat + 1 ∧ s a 38 + 1 ≤ s2 a 38 ∧ s2 a 38 - s a 38 ≤ s2 a 4 - s a 4 ∧ s2 a 4 ≤ s a 3)) ∧ zNv (s2 a 5) (s2 (gP G a 31)) (s2 (gP G a 32)) (s2 a 38) ∧ s2 a 0 = s a 0 ∧ s2 a 3 = s a 3 ∧ s2 a 7 = s a 7 ∧ s2 a 21 = s a 21 ∧ s2 a 22 = s a 22 ∧ s2 a 23 = s a 23 ∧ s2 a 24 = s a 24 ∧ s2 a 51 = s a 51 ∧ s2 a 52 = s a 52)) := by
  refine Con.mk hst (by decide) (fun G s vs h => by rw [h.1]; exact Nat.le_of_ble_eq_true rfl) ?_
  rintro X G s0 vs ⟨rfl, hG, hS0, ha, hx1, hx2, e0, e1, e2, e3, e4⟩ rfl hx hq
  show JJ X E 5 G s0 0 0 [(0, .ref a), (1, .int (zI x1)), (2, .int (zI x2))] 0 []
  refine j_aload_n hx 0 dX12_readHeld_0 rfl ?_
  have f1 := zf hS0 ha (k := 4) rfl
  have f2 := zf hS0 ha (k := 3) rfl
  have f3 := zf hS0 ha (k := 0) rfl
  have f4 := zf hS0 ha (k := 5) rfl
  have f5 := zf hS0 ha (k := 7) rfl
  have f6 := zf hS0 ha (k := 21) rfl
  have f7 := zf hS0 ha (k := 22) rfl
  have f8 := zf hS0 ha (k := 23) rfl
  have f9 := zf hS0 ha (k := 24) rfl
  have f10 := zf hS0 ha (k := 38) rfl
  have f11 := zf hS0 ha (k := 51) rfl
  have f12 := zf hS0 ha (k := 52) rfl
  refine j_callV hx hG (c_X12_here hst a) lk_RX12_149 ha (by decide) rfl rfl rfl rfl [] ⟨rfl, hG, hS0, ha, (by omega)⟩ rfl rfl ⟨by decide, by decide⟩ ⟨by decide, by decide⟩ (k2 := 0) (n2 := 0) rfl rfl (Nat.le_of_ble_eq_true rfl) dX12_readHeld_1 (kIM (fun v13 s1 hS_s1 hF_s1 q14 => ?_))
  refine j_istore_n hx [(3, .int (zI v13)), (0, .ref a), (1, .int (zI x1)), (2, .int (zI x2))] dX12_readHeld_4 (by decide) rfl ?_
  refine j_iload_n hx 0 dX12_readHeld_5 rfl ?_
  refine j_bipush hx dX12_readHeld_6 rfl ?_
  refine j_icmp_eq hx 22 dX12_readHeld_8 rfl (by omega) ⟨by decide, by decide⟩ (fun h15 => ?_) (fun h15 => ?_)
  · skip
    refine j_iconst hx dX12_readHeld_22 ?_
    refine j_goto hx 27 dX12_readHeld_23 rfl ?_
    refine j_istore hx [(4, .int (zI 1)), (3, .int (zI v13)), (0, .ref a), (1, .int (zI x1)), (2, .int (zI x2))] dX12_readHeld_27 (by decide) rfl ?_
    refine j_iload hx 0 dX12_readHeld_29 rfl ?_
    refine j_if_ne hx 43 dX12_readHeld_31 rfl ⟨by decide, by decide⟩ (fun h16 => ?_) (fun h16 => absurd h16 (by omega))
    refine j_aload_n hx 2 dX12_readHeld_43 rfl ?_
    refine j_callV hx hG (c_X12_fine hst a) lk_RX12_166 ha (by decide) rfl rfl rfl rfl [] ⟨rfl, hG, hS_s1, ha⟩ rfl rfl ⟨by decide, by decide⟩ ⟨by decide, by decide⟩ (k2 := 0) (n2 := 0) rfl rfl (Nat.le_of_ble_eq_true rfl) dX12_readHeld_44 (kIP (fun v17 q18 => ?_))
    refine j_if_ne hx 51 dX12_readHeld_47 rfl (by omega) (fun h19 => ?_) (fun h19 => ?_)
    · skip
      refine j_aload_n hx 2 dX12_readHeld_51 rfl ?_
      refine j_dup hx dX12_readHeld_52 rfl ?_
      have f20 := zf hS_s1 ha (k := 4) rfl
      refine g13_4 hx hG ha kf_RX12_143 rfl dX12_readHeld_53 ?_
      refine j_iconst hx dX12_readHeld_56 ?_
      refine j_iadd hx (r := (s1 a 4) + 1) dX12_readHeld_57 (by omega) ?_
      refine p13_4 hx hG ha kf_RX12_143 dX12_readHeld_58 ?_
      obtain ⟨s2, e_s2⟩ : ∃ z, z = zU s1 a 4 ((s1 a 4) + 1) := ⟨_, rfl⟩
      rw [← e_s2]
      have hS_s2 : zSK G s2 := by rw [e_s2]; exact zSK_F hS_s1 ha rfl rfl rfl (by omega)
      refine j_aload_n hx 2 dX12_readHeld_61 rfl ?_
      refine j_iload_n hx 1 dX12_readHeld_62 rfl ?_
      refine j_bipush hx dX12_readHeld_63 rfl ?_
      refine j_icmp_ne hx 72 dX12_readHeld_65 rfl (by omega) ⟨by decide, by decide⟩ (fun h21 => ?_) (fun h21 => absurd h21 (by omega))
      refine j_iload_n hx 4 dX12_readHeld_72 rfl ?_
      refine j_aload_n hx 2 dX12_readHeld_73 rfl ?_
      refine j_iconst hx dX12_readHeld_74 ?_
      refine j_bipush hx dX12_readHeld_75 rfl ?_
      have g22 : s2 a 4 = (s1 a 4) + 1 := (by rw [e_s2, zU_eq])
      have g23 : s2 a 3 = s1 a 3 := (by rw [e_s2, zU_at (Or.inr (by decide))])
      have f24 := zf hS_s1 ha (k := 3) rfl
      have g25 : s2 a 5 = s1 a 5 := (by rw [e_s2, zU_at (Or.inr (by decide))])
      have f26 := zf hS_s1 ha (k := 5) rfl
      have g27 : s2 a 0 = s1 a 0 := (by rw [e_s2, zU_at (Or.inr (by decide))])
      have f28 := zf hS_s1 ha (k := 0) rfl
      have g29 : s2 a 7 = s1 a 7 := (by rw [e_s2, zU_at (Or.inr (by decide))])
      have f30 := zf hS_s1 ha (k := 7) rfl
      have g31 : s2 a 21 = s1 a 21 := (by rw [e_s2, zU_at (Or.inr (by decide))])
      have f32 := zf hS_s1 ha (k := 21) rfl
      have g33 : s2 a 22 = s1 a 22 := (by rw [e_s2, zU_at (Or.inr (by decide))])
      have f34 := zf hS_s1 ha (k := 22) rfl
      have g35 : s2 a 23 = s1 a 23 := (by rw [e_s2, zU_at (Or.inr (by decide))])
      have f36 := zf hS_s1 ha (k := 23) rfl
      have g37 : s2 a 24 = s1 a 24 := (by rw [e_s2, zU_at (Or.inr (by decide))])
      have f38 := zf hS_s1 ha (k := 24) rfl
      have g39 : s2 a 38 = s1 a 38 := (by rw [e_s2, zU_at (Or.inr (by decide))])
      have f40 := zf hS_s1 ha (k := 38) rfl
      have g41 : s2 a 51 = s1 a 51 := (by rw [e_s2, zU_at (Or.inr (by decide))])
      have f42 := zf hS_s1 ha (k := 51) rfl
      have g43 : s2 a 52 = s1 a 52 := (by rw [e_s2, zU_at (Or.inr (by decide))])
      have f44 := zf hS_s1 ha (k := 52) rfl
      refine j_callV hx hG (c_X12_readNumber_h hst a 0 60) lk_RX12_219 ha (by decide) rfl rfl rfl rfl [.int (zI 0), .int (zI 60)] ⟨rfl, hG, hS_s2, ha, (by omega), (by omega), (by omega)⟩ rfl rfl ⟨by decide, by decide⟩ ⟨by decide, by decide⟩ (k2 := 0) (n2 := 0) rfl rfl (Nat.le_of_ble_eq_true rfl) dX12_readHeld_77 (kIM (fun v45 s3 hS_s3 hF_s3 q46 => ?_))
      refine j_iconst hx dX12_readHeld_80 ?_
      have f47 := zf hS_s3 ha (k := 5) rfl
      have f48 := zf hS_s3 ha (k := 38) rfl
      have g49 : (s3 (gP G a 31)) = (s0 (gP G a 31)) := by rw [hF_s3 (gP G a 31) (by rw [(zr (k := 31) (t2 := 88) hG ha rfl)]; decide), e_s2, zU_ne (zne ha (zr (k := 31) (t2 := 88) hG ha rfl) (by decide)), hF_s1 (gP G a 31) (by rw [(zr (k := 31) (t2 := 88) hG ha rfl)]; decide)]
      have g50 : zRp (s3 (gP G a 31)) 0 (s3 a 38).toNat = zRp (s0 (gP G a 31)) 0 (s0 a 38).toNat := by rw [g49, show s3 a 38 = s0 a 38 by omega]
      have f51 := zf hS_s3 ha (k := 0) rfl
      have f52 := zf hS_s3 ha (k := 3) rfl
      have f53 := zf hS_s3 ha (k := 4) rfl
      have f54 := zf hS_s3 ha (k := 7) rfl
      have f55 := zf hS_s3 ha (k := 21) rfl
      have f56 := zf hS_s3 ha (k := 22) rfl
      have f57 := zf hS_s3 ha (k := 23) rfl
      have f58 := zf hS_s3 ha (k := 24) rfl
      have f59 := zf hS_s3 ha (k := 51) rfl
      have f60 := zf hS_s3 ha (k := 52) rfl
      refine j_callV hx hG (c_X12_emit hst a x2 v45 0) lk_RX12_277 ha (by decide) rfl rfl rfl rfl [.int (zI x2), .int (zI v45), .int (zI 0)] ⟨rfl, hG, hS_s3, ha, (by omega), (by omega), (by omega), (by omega), ((by have q1 : s3 (gP G a 31) = s0 (gP G a 31) := (by rw [hF_s3 (gP G a 31) (by rw [(zr (k := 31) (t2 := 88) hG ha rfl)]; decide), e_s2, zU_ne (zne ha (zr (k := 31) (t2 := 88) hG ha rfl) (by decide)), hF_s1 (gP G a 31) (by rw [(zr (k := 31) (t2 := 88) hG ha rfl)]; decide)]); have q2 : s3 (gP G a 32) = s0 (gP G a 32) := (by rw [hF_s3 (gP G a 32) (by rw [(zr (k := 32) (t2 := 89) hG ha rfl)]; decide), e_s2, zU_ne (zne ha (zr (k := 32) (t2 := 89) hG ha rfl) (by decide)), hF_s1 (gP G a 32) (by rw [(zr (k := 32) (t2 := 89) hG ha rfl)]; decide)]); rw [q1, q2]; exact (zNv_k e3 (by omega) (by omega)))), (by omega)⟩ rfl rfl ⟨by decide, by decide⟩ ⟨by decide, by decide⟩ (k2 := 0) (n2 := 0) rfl rfl (Nat.le_of_ble_eq_true rfl) dX12_readHeld_81 (kVM (fun s4 hS_s4 hF_s4 q62 => ?_))
      have f63 := zf hS_s4 ha (k := 4) rfl
      have f64 := zf hS_s4 ha (k := 5) rfl
      have f65 := zf hS_s4 ha (k := 38) rfl
      have f66 := zf hS_s4 ha (k := 0) rfl
      have f67 := zf hS_s4 ha (k := 3) rfl
      have f68 := zf hS_s4 ha (k := 7) rfl
      have f69 := zf hS_s4 ha (k := 21) rfl
      have f70 := zf hS_s4 ha (k := 22) rfl
      have f71 := zf hS_s4 ha (k := 23) rfl
      have f72 := zf hS_s4 ha (k := 24) rfl
      have f73 := zf hS_s4 ha (k := 51) rfl
      have f74 := zf hS_s4 ha (k := 52) rfl
      exact j_vret hx hq rfl (by decide) (by decide) dX12_readHeld_84 ⟨rfl, rfl, hS_s4, (zFr_t (zFr_t (zFr_u (zFr_t zFr_rf hF_s1 (by decide)) e_s2 ha (by decide)) hF_s3 (by decide)) hF_s4 (by decide)), ⟨by omega, by omega, by omega, by omega, (zNv_k q62.2.1 (by omega) (by omega)), by omega, by omega, by omega, by omega, by omega, by omega, by omega, by omega, by omega⟩⟩
    · skip
      have f75 := zf hS_s1 ha (k := 4) rfl
      have f76 := zf hS_s1 ha (k := 5) rfl
      have f77 := zf hS_s1 ha (k := 38) rfl
      have g78 : (s1 (gP G a 31)) = (s0 (gP G a 31)) := by rw [hF_s1 (gP G a 31) (by rw [(zr (k := 31) (t2 := 88) hG ha rfl)]; decide)]
      have g79 : zRp (s1 (gP G a 31)) 0 (s1 a 38).toNat = zRp (s0 (gP G a 31)) 0 (s0 a 38).toNat := by rw [g78, show s1 a 38 = s0 a 38 by omega]
      have f80 := zf hS_s1 ha (k := 0) rfl
      have f81 := zf hS_s1 ha (k := 3) rfl
      have f82 := zf hS_s1 ha (k := 7) rfl
      have f83 := zf hS_s1 ha (k := 21) rfl
      have f84 := zf hS_s1 ha (k := 22) rfl
      have f85 := zf hS_s1 ha (k := 23) rfl
      have f86 := zf hS_s1 ha (k := 24) rfl
      have f87 := zf hS_s1 ha (k := 51) rfl
      have f88 := zf hS_s1 ha (k := 52) rfl
      exact j_vret hx hq rfl (by decide) (by decide) dX12_readHeld_50 ⟨rfl, rfl, hS_s1, (zFr_t zFr_rf hF_s1 (by decide)), ⟨by omega, by omega, by omega, by omega, (by have q1 : s1 (gP G a 31) = s0 (gP G a 31) := (by rw [hF_s1 (gP G a 31) (by rw [(zr (k := 31) (t2 := 88) hG ha rfl)]; decide)]); have q2 : s1 (gP G a 32) = s0 (gP G a 32) := (by rw [hF_s1 (gP G a 32) (by rw [(zr (k := 32) (t2 := 89) hG ha rfl)]; decide)]); rw [q1, q2]; exact (zNv_k e3 (by omega) (by omega))), by omega, by omega, by omega, by omega, by omega, by omega, by omega, by omega, by omega⟩⟩
  · skip
    refine j_iload_n hx 0 dX12_readHeld_11 rfl ?_
    refine j_bipush hx dX12_readHeld_12 rfl ?_
    refine j_icmp_ne hx 26 dX12_readHeld_14 rfl (by omega) ⟨by decide, by decide⟩ (fun h89 => ?_) (fun h89 => ?_)
    · skip
      refine j_iconst hx dX12_readHeld_26 ?_
      refine j_istore hx [(4, .int (zI 0)), (3, .int (zI v13)), (0, .ref a), (1, .int (zI x1)), (2, .int (zI x2))] dX12_readHeld_27 (by decide) rfl ?_
      refine j_iload hx 0 dX12_readHeld_29 rfl ?_
      refine j_if_ne hx 43 dX12_readHeld_31 rfl ⟨by decide, by decide⟩ (fun h90 => absurd h90 (by omega)) (fun h90 => ?_)
      refine j_aload_n hx 2 dX12_readHeld_34 rfl ?_
      refine j_iconst hx dX12_readHeld_35 ?_
      refine j_aload_n hx 2 dX12_readHeld_36 rfl ?_
      have f91 := zf hS_s1 ha (k := 4) rfl
      refine g13_4 hx hG ha kf_RX12_143 rfl dX12_readHeld_37 ?_
      have f92 := zf hS_s1 ha (k := 5) rfl
      have f93 := zf hS_s1 ha (k := 0) rfl
      have f94 := zf hS_s1 ha (k := 3) rfl
      have f95 := zf hS_s1 ha (k := 7) rfl
      have f96 := zf hS_s1 ha (k := 21) rfl
      have f97 := zf hS_s1 ha (k := 22) rfl
      have f98 := zf hS_s1 ha (k := 23) rfl
      have f99 := zf hS_s1 ha (k := 24) rfl
      have f100 := zf hS_s1 ha (k := 38) rfl
      have f101 := zf hS_s1 ha (k := 51) rfl
      have f102 := zf hS_s1 ha (k := 52) rfl
      refine j_callV hx hG (c_X12_wrong hst a 1 ((s1 a 4))) lk_RX12_173 ha (by decide) rfl rfl rfl rfl [.int (zI 1), .int (zI ((s1 a 4)))] ⟨rfl, hG, hS_s1, ha, (by omega), (by omega)⟩ rfl rfl ⟨by decide, by decide⟩ ⟨by decide, by decide⟩ (k2 := 0) (n2 := 0) rfl rfl (Nat.le_of_ble_eq_true rfl) dX12_readHeld_40 (kVM (fun s5 hS_s5 hF_s5 q104 => ?_))
      refine j_aload_n hx 2 dX12_readHeld_43 rfl ?_
      refine j_callV hx hG (c_X12_fine hst a) lk_RX12_166 ha (by decide) rfl rfl rfl rfl [] ⟨rfl, hG, hS_s5, ha⟩ rfl rfl ⟨by decide, by decide⟩ ⟨by decide, by decide⟩ (k2 := 0) (n2 := 0) rfl rfl (Nat.le_of_ble_eq_true rfl) dX12_readHeld_44 (kIP (fun v105 q106 => ?_))
      refine j_if_ne hx 51 dX12_readHeld_47 rfl (by omega) (fun h107 => ?_) (fun h107 => ?_)
      · skip
        refine j_aload_n hx 2 dX12_readHeld_51 rfl ?_
        refine j_dup hx dX12_readHeld_52 rfl ?_
        have f108 := zf hS_s5 ha (k := 4) rfl
        refine g13_4 hx hG ha kf_RX12_143 rfl dX12_readHeld_53 ?_
        refine j_iconst hx dX12_readHeld_56 ?_
        refine j_iadd hx (r := (s5 a 4) + 1) dX12_readHeld_57 (by omega) ?_
        refine p13_4 hx hG ha kf_RX12_143 dX12_readHeld_58 ?_
        obtain ⟨s6, e_s6⟩ : ∃ z, z = zU s5 a 4 ((s5 a 4) + 1) := ⟨_, rfl⟩
        rw [← e_s6]
        have hS_s6 : zSK G s6 := by rw [e_s6]; exact zSK_F hS_s5 ha rfl rfl rfl (by omega)
        refine j_aload_n hx 2 dX12_readHeld_61 rfl ?_
        refine j_iload_n hx 1 dX12_readHeld_62 rfl ?_
        refine j_bipush hx dX12_readHeld_63 rfl ?_
        refine j_icmp_ne hx 72 dX12_readHeld_65 rfl (by omega) ⟨by decide, by decide⟩ (fun h109 => ?_) (fun h109 => ?_)
        · skip
          refine j_iload_n hx 4 dX12_readHeld_72 rfl ?_
          refine j_aload_n hx 2 dX12_readHeld_73 rfl ?_
          refine j_iconst hx dX12_readHeld_74 ?_
          refine j_bipush hx dX12_readHeld_75 rfl ?_
          have g110 : s6 a 4 = (s5 a 4) + 1 := (by rw [e_s6, zU_eq])
          have g111 : s6 a 3 = s5 a 3 := (by rw [e_s6, zU_at (Or.inr (by decide))])
          have f112 := zf hS_s5 ha (k := 3) rfl
          have g113 : s6 a 5 = s5 a 5 := (by rw [e_s6, zU_at (Or.inr (by decide))])
          have f114 := zf hS_s5 ha (k := 5) rfl
          have g115 : s6 a 0 = s5 a 0 := (by rw [e_s6, zU_at (Or.inr (by decide))])
          have f116 := zf hS_s5 ha (k := 0) rfl
          have g117 : s6 a 7 = s5 a 7 := (by rw [e_s6, zU_at (Or.inr (by decide))])
          have f118 := zf hS_s5 ha (k := 7) rfl
          have g119 : s6 a 21 = s5 a 21 := (by rw [e_s6, zU_at (Or.inr (by decide))])
          have f120 := zf hS_s5 ha (k := 21) rfl
          have g121 : s6 a 22 = s5 a 22 := (by rw [e_s6, zU_at (Or.inr (by decide))])
          have f122 := zf hS_s5 ha (k := 22) rfl
          have g123 : s6 a 23 = s5 a 23 := (by rw [e_s6, zU_at (Or.inr (by decide))])
          have f124 := zf hS_s5 ha (k := 23) rfl
          have g125 : s6 a 24 = s5 a 24 := (by rw [e_s6, zU_at (Or.inr (by decide))])
          have f126 := zf hS_s5 ha (k := 24) rfl
          have g127 : s6 a 38 = s5 a 38 := (by rw [e_s6, zU_at (Or.inr (by decide))])
          have f128 := zf hS_s5 ha (k := 38) rfl
          have g129 : s6 a 51 = s5 a 51 := (by rw [e_s6, zU_at (Or.inr (by decide))])
          have f130 := zf hS_s5 ha (k := 51) rfl
          have g131 : s6 a 52 = s5 a 52 := (by rw [e_s6, zU_at (Or.inr (by decide))])
          have f132 := zf hS_s5 ha (k := 52) rfl
          refine j_callV hx hG (c_X12_readNumber_h hst a 0 60) lk_RX12_219 ha (by decide) rfl rfl rfl rfl [.int (zI 0), .int (zI 60)] ⟨rfl, hG, hS_s6, ha, (by omega), (by omega), (by omega)⟩ rfl rfl ⟨by decide, by decide⟩ ⟨by decide, by decide⟩ (k2 := 0) (n2 := 0) rfl rfl (Nat.le_of_ble_eq_true rfl) dX12_readHeld_77 (kIM (fun v133 s7 hS_s7 hF_s7 q134 => ?_))
          refine j_iconst hx dX12_readHeld_80 ?_
          have f135 := zf hS_s7 ha (k := 5) rfl
          have f136 := zf hS_s7 ha (k := 38) rfl
          have g137 : (s7 (gP G a 31)) = (s0 (gP G a 31)) := by rw [hF_s7 (gP G a 31) (by rw [(zr (k := 31) (t2 := 88) hG ha rfl)]; decide), e_s6, zU_ne (zne ha (zr (k := 31) (t2 := 88) hG ha rfl) (by decide)), hF_s5 (gP G a 31) (by rw [(zr (k := 31) (t2 := 88) hG ha rfl)]; decide), hF_s1 (gP G a 31) (by rw [(zr (k := 31) (t2 := 88) hG ha rfl)]; decide)]
          have g138 : zRp (s7 (gP G a 31)) 0 (s7 a 38).toNat = zRp (s0 (gP G a 31)) 0 (s0 a 38).toNat := by rw [g137, show s7 a 38 = s0 a 38 by omega]
          have f139 := zf hS_s7 ha (k := 0) rfl
          have f140 := zf hS_s7 ha (k := 3) rfl
          have f141 := zf hS_s7 ha (k := 4) rfl
          have f142 := zf hS_s7 ha (k := 7) rfl
          have f143 := zf hS_s7 ha (k := 21) rfl
          have f144 := zf hS_s7 ha (k := 22) rfl
          have f145 := zf hS_s7 ha (k := 23) rfl
          have f146 := zf hS_s7 ha (k := 24) rfl
          have f147 := zf hS_s7 ha (k := 51) rfl
          have f148 := zf hS_s7 ha (k := 52) rfl
          refine j_callV hx hG (c_X12_emit hst a x2 v133 0) lk_RX12_277 ha (by decide) rfl rfl rfl rfl [.int (zI x2), .int (zI v133), .int (zI 0)] ⟨rfl, hG, hS_s7, ha, (by omega), (by omega), (by omega), (by omega), ((by have q1 : s7 (gP G a 31) = s0 (gP G a 31) := (by rw [hF_s7 (gP G a 31) (by rw [(zr (k := 31) (t2 := 88) hG ha rfl)]; decide), e_s6, zU_ne (zne ha (zr (k := 31) (t2 := 88) hG ha rfl) (by decide)), hF_s5 (gP G a 31) (by rw [(zr (k := 31) (t2 := 88) hG ha rfl)]; decide), hF_s1 (gP G a 31) (by rw [(zr (k := 31) (t2 := 88) hG ha rfl)]; decide)]); have q2 : s7 (gP G a 32) = s0 (gP G a 32) := (by rw [hF_s7 (gP G a 32) (by rw [(zr (k := 32) (t2 := 89) hG ha rfl)]; decide), e_s6, zU_ne (zne ha (zr (k := 32) (t2 := 89) hG ha rfl) (by decide)), hF_s5 (gP G a 32) (by rw [(zr (k := 32) (t2 := 89) hG ha rfl)]; decide), hF_s1 (gP G a 32) (by rw [(zr (k := 32) (t2 := 89) hG ha rfl)]; decide)]); rw [q1, q2]; exact (zNv_k e3 (by omega) (by omega)))), (by omega)⟩ rfl rfl ⟨by decide, by decide⟩ ⟨by decide, by decide⟩ (k2 := 0) (n2 := 0) rfl rfl (Nat.le_of_ble_eq_true rfl) dX12_readHeld_81 (kVM (fun s8 hS_s8 hF_s8 q150 => ?_))
          have f151 := zf hS_s8 ha (k := 4) rfl
          have f152 := zf hS_s8 ha (k := 5) rfl
          have f153 := zf hS_s8 ha (k := 38) rfl
          have f154 := zf hS_s8 ha (k := 0) rfl
          have f155 := zf hS_s8 ha (k := 3) rfl
          have f156 := zf hS_s8 ha (k := 7) rfl
          have f157 := zf hS_s8 ha (k := 21) rfl
          have f158 := zf hS_s8 ha (k := 22) rfl
          have f159 := zf hS_s8 ha (k := 23) rfl
          have f160 := zf hS_s8 ha (k := 24) rfl
          have f161 := zf hS_s8 ha (k := 51) rfl
          have f162 := zf hS_s8 ha (k := 52) rfl
          exact j_vret hx hq rfl (by decide) (by decide) dX12_readHeld_84 ⟨rfl, rfl, hS_s8, (zFr_t (zFr_t (zFr_u (zFr_t (zFr_t zFr_rf hF_s1 (by decide)) hF_s5 (by decide)) e_s6 ha (by decide)) hF_s7 (by decide)) hF_s8 (by decide)), ⟨by omega, by omega, by omega, by omega, (zNv_k q150.2.1 (by omega) (by omega)), by omega, by omega, by omega, by omega, by omega, by omega, by omega, by omega, by omega⟩⟩
        · skip
          refine j_iload_n hx 3 dX12_readHeld_68 rfl ?_
          refine j_goto hx 73 dX12_readHeld_69 rfl ?_
          refine j_aload_n hx 2 dX12_readHeld_73 rfl ?_
          refine j_iconst hx dX12_readHeld_74 ?_
          refine j_bipush hx dX12_readHeld_75 rfl ?_
          have g163 : s6 a 4 = (s5 a 4) + 1 := (by rw [e_s6, zU_eq])
          have g164 : s6 a 3 = s5 a 3 := (by rw [e_s6, zU_at (Or.inr (by decide))])
          have f165 := zf hS_s5 ha (k := 3) rfl
          have g166 : s6 a 5 = s5 a 5 := (by rw [e_s6, zU_at (Or.inr (by decide))])
          have f167 := zf hS_s5 ha (k := 5) rfl
          have g168 : s6 a 0 = s5 a 0 := (by rw [e_s6, zU_at (Or.inr (by decide))])
          have f169 := zf hS_s5 ha (k := 0) rfl
          have g170 : s6 a 7 = s5 a 7 := (by rw [e_s6, zU_at (Or.inr (by decide))])
          have f171 := zf hS_s5 ha (k := 7) rfl
          have g172 : s6 a 21 = s5 a 21 := (by rw [e_s6, zU_at (Or.inr (by decide))])
          have f173 := zf hS_s5 ha (k := 21) rfl
          have g174 : s6 a 22 = s5 a 22 := (by rw [e_s6, zU_at (Or.inr (by decide))])
          have f175 := zf hS_s5 ha (k := 22) rfl
          have g176 : s6 a 23 = s5 a 23 := (by rw [e_s6, zU_at (Or.inr (by decide))])
          have f177 := zf hS_s5 ha (k := 23) rfl
          have g178 : s6 a 24 = s5 a 24 := (by rw [e_s6, zU_at (Or.inr (by decide))])
          have f179 := zf hS_s5 ha (k := 24) rfl
          have g180 : s6 a 38 = s5 a 38 := (by rw [e_s6, zU_at (Or.inr (by decide))])
          have f181 := zf hS_s5 ha (k := 38) rfl
          have g182 : s6 a 51 = s5 a 51 := (by rw [e_s6, zU_at (Or.inr (by decide))])
          have f183 := zf hS_s5 ha (k := 51) rfl
          have g184 : s6 a 52 = s5 a 52 := (by rw [e_s6, zU_at (Or.inr (by decide))])
          have f185 := zf hS_s5 ha (k := 52) rfl
          refine j_callV hx hG (c_X12_readNumber_h hst a 0 60) lk_RX12_219 ha (by decide) rfl rfl rfl rfl [.int (zI 0), .int (zI 60)] ⟨rfl, hG, hS_s6, ha, (by omega), (by omega), (by omega)⟩ rfl rfl ⟨by decide, by decide⟩ ⟨by decide, by decide⟩ (k2 := 0) (n2 := 0) rfl rfl (Nat.le_of_ble_eq_true rfl) dX12_readHeld_77 (kIM (fun v186 s9 hS_s9 hF_s9 q187 => ?_))
          refine j_iconst hx dX12_readHeld_80 ?_
          have f188 := zf hS_s9 ha (k := 5) rfl
          have f189 := zf hS_s9 ha (k := 38) rfl
          have g190 : (s9 (gP G a 31)) = (s0 (gP G a 31)) := by rw [hF_s9 (gP G a 31) (by rw [(zr (k := 31) (t2 := 88) hG ha rfl)]; decide), e_s6, zU_ne (zne ha (zr (k := 31) (t2 := 88) hG ha rfl) (by decide)), hF_s5 (gP G a 31) (by rw [(zr (k := 31) (t2 := 88) hG ha rfl)]; decide), hF_s1 (gP G a 31) (by rw [(zr (k := 31) (t2 := 88) hG ha rfl)]; decide)]
          have g191 : zRp (s9 (gP G a 31)) 0 (s9 a 38).toNat = zRp (s0 (gP G a 31)) 0 (s0 a 38).toNat := by rw [g190, show s9 a 38 = s0 a 38 by omega]
          have f192 := zf hS_s9 ha (k := 0) rfl
          have f193 := zf hS_s9 ha (k := 3) rfl
          have f194 := zf hS_s9 ha (k := 4) rfl
          have f195 := zf hS_s9 ha (k := 7) rfl
          have f196 := zf hS_s9 ha (k := 21) rfl
          have f197 := zf hS_s9 ha (k := 22) rfl
          have f198 := zf hS_s9 ha (k := 23) rfl
          have f199 := zf hS_s9 ha (k := 24) rfl
          have f200 := zf hS_s9 ha (k := 51) rfl
          have f201 := zf hS_s9 ha (k := 52) rfl
          refine j_callV hx hG (c_X12_emit hst a x1 v186 0) lk_RX12_277 ha (by decide) rfl rfl rfl rfl [.int (zI x1), .int (zI v186), .int (zI 0)] ⟨rfl, hG, hS_s9, ha, (by omega), (by omega), (by omega), (by omega), ((by have q1 : s9 (gP G a 31) = s0 (gP G a 31) := (by rw [hF_s9 (gP G a 31) (by rw [(zr (k := 31) (t2 := 88) hG ha rfl)]; decide), e_s6, zU_ne (zne ha (zr (k := 31) (t2 := 88) hG ha rfl) (by decide)), hF_s5 (gP G a 31) (by rw [(zr (k := 31) (t2 := 88) hG ha rfl)]; decide), hF_s1 (gP G a 31) (by rw [(zr (k := 31) (t2 := 88) hG ha rfl)]; decide)]); have q2 : s9 (gP G a 32) = s0 (gP G a 32) := (by rw [hF_s9 (gP G a 32) (by rw [(zr (k := 32) (t2 := 89) hG ha rfl)]; decide), e_s6, zU_ne (zne ha (zr (k := 32) (t2 := 89) hG ha rfl) (by decide)), hF_s5 (gP G a 32) (by rw [(zr (k := 32) (t2 := 89) hG ha rfl)]; decide), hF_s1 (gP G a 32) (by rw [(zr (k := 32) (t2 := 89) hG ha rfl)]; decide)]); rw [q1, q2]; exact (zNv_k e3 (by omega) (by omega)))), (by omega)⟩ rfl rfl ⟨by decide, by decide⟩ ⟨by decide, by decide⟩ (k2 := 0) (n2 := 0) rfl rfl (Nat.le_of_ble_eq_true rfl) dX12_readHeld_81 (kVM (fun s10 hS_s10 hF_s10 q203 => ?_))
          have f204 := zf hS_s10 ha (k := 4) rfl
          have f205 := zf hS_s10 ha (k := 5) rfl
          have f206 := zf hS_s10 ha (k := 38) rfl
          have f207 := zf hS_s10 ha (k := 0) rfl
          have f208 := zf hS_s10 ha (k := 3) rfl
          have f209 := zf hS_s10 ha (k := 7) rfl
          have f210 := zf hS_s10 ha (k := 21) rfl
          have f211 := zf hS_s10 ha (k := 22) rfl
          have f212 := zf hS_s10 ha (k := 23) rfl
          have f213 := zf hS_s10 ha (k := 24) rfl
          have f214 := zf hS_s10 ha (k := 51) rfl
          have f215 := zf hS_s10 ha (k := 52) rfl
          exact j_vret hx hq rfl (by decide) (by decide) dX12_readHeld_84 ⟨rfl, rfl, hS_s10, (zFr_t (zFr_t (zFr_u (zFr_t (zFr_t zFr_rf hF_s1 (by decide)) hF_s5 (by decide)) e_s6 ha (by decide)) hF_s9 (by decide)) hF_s10 (by decide)), ⟨by omega, by omega, by omega, by omega, (zNv_k q203.2.1 (by omega) (by omega)), by omega, by omega, by omega, by omega, by omega, by omega, by omega, by omega, by omega⟩⟩
      · skip
        have f216 := zf hS_s5 ha (k := 4) rfl
        have f217 := zf hS_s5 ha (k := 5) rfl
        have f218 := zf hS_s5 ha (k := 38) rfl
        have g219 : (s5 (gP G a 31)) = (s0 (gP G a 31)) := by rw [hF_s5 (gP G a 31) (by rw [(zr (k := 31) (t2 := 88) hG ha rfl)]; decide), hF_s1 (gP G a 31) (by rw [(zr (k := 31) (t2 := 88) hG ha rfl)]; decide)]
        have g220 : zRp (s5 (gP G a 31)) 0 (s5 a 38).toNat = zRp (s0 (gP G a 31)) 0 (s0 a 38).toNat := by rw [g219, show s5 a 38 = s0 a 38 by omega]
        have f221 := zf hS_s5 ha (k := 0) rfl
        have f222 := zf hS_s5 ha (k := 3) rfl
        have f223 := zf hS_s5 ha (k := 7) rfl
        have f224 := zf hS_s5 ha (k := 21) rfl
        have f225 := zf hS_s5 ha (k := 22) rfl
        have f226 := zf hS_s5 ha (k := 23) rfl
        have f227 := zf hS_s5 ha (k := 24) rfl
        have f228 := zf hS_s5 ha (k := 51) rfl
        have f229 := zf hS_s5 ha (k := 52) rfl
        exact j_vret hx hq rfl (by decide) (by decide) dX12_readHeld_50 ⟨rfl, rfl, hS_s5, (zFr_t (zFr_t zFr_rf hF_s1 (by decide)) hF_s5 (by decide)), ⟨by omega, by omega, by omega, by omega, (by have q1 : s5 (gP G a 31) = s0 (gP G a 31) := (by rw [hF_s5 (gP G a 31) (by rw [(zr (k := 31) (t2 := 88) hG ha rfl)]; decide), hF_s1 (gP G a 31) (by rw [(zr (k := 31) (t2 := 88) hG ha rfl)]; decide)]); have q2 : s5 (gP G a 32) = s0 (gP G a 32) := (by rw [hF_s5 (gP G a 32) (by rw [(zr (k := 32) (t2 := 89) hG ha rfl)]; decide), hF_s1 (gP G a 32) (by rw [(zr (k := 32) (t2 := 89) hG ha rfl)]; decide)]); rw [q1, q2]; exact (zNv_k e3 (by omega) (by omega))), by omega, by omega, by omega, by omega, by omega, by omega, by omega, by omega, by omega⟩⟩
    · skip
      refine j_iload_n hx 2 dX12_readHeld_17 rfl ?_
      refine j_iconst hx dX12_readHeld_18 ?_
      refine j_icmp_eq hx 26 dX12_readHeld_19 rfl (by omega) ⟨by decide, by decide⟩ (fun h230 => ?_) (fun h230 => ?_)
      · skip
        refine j_iconst hx dX12_readHeld_26 ?_
        refine j_istore hx [(4, .int (zI 0)), (3, .int (zI v13)), (0, .ref a), (1, .int (zI x1)), (2, .int (zI x2))] dX12_readHeld_27 (by decide) rfl ?_
        refine j_iload hx 0 dX12_readHeld_29 rfl ?_
        refine j_if_ne hx 43 dX12_readHeld_31 rfl ⟨by decide, by decide⟩ (fun h231 => absurd h231 (by omega)) (fun h231 => ?_)
        refine j_aload_n hx 2 dX12_readHeld_34 rfl ?_
        refine j_iconst hx dX12_readHeld_35 ?_
        refine j_aload_n hx 2 dX12_readHeld_36 rfl ?_
        have f232 := zf hS_s1 ha (k := 4) rfl
        refine g13_4 hx hG ha kf_RX12_143 rfl dX12_readHeld_37 ?_
        have f233 := zf hS_s1 ha (k := 5) rfl
        have f234 := zf hS_s1 ha (k := 0) rfl
        have f235 := zf hS_s1 ha (k := 3) rfl
        have f236 := zf hS_s1 ha (k := 7) rfl
        have f237 := zf hS_s1 ha (k := 21) rfl
        have f238 := zf hS_s1 ha (k := 22) rfl
        have f239 := zf hS_s1 ha (k := 23) rfl
        have f240 := zf hS_s1 ha (k := 24) rfl
        have f241 := zf hS_s1 ha (k := 38) rfl
        have f242 := zf hS_s1 ha (k := 51) rfl
        have f243 := zf hS_s1 ha (k := 52) rfl
        refine j_callV hx hG (c_X12_wrong hst a 1 ((s1 a 4))) lk_RX12_173 ha (by decide) rfl rfl rfl rfl [.int (zI 1), .int (zI ((s1 a 4)))] ⟨rfl, hG, hS_s1, ha, (by omega), (by omega)⟩ rfl rfl ⟨by decide, by decide⟩ ⟨by decide, by decide⟩ (k2 := 0) (n2 := 0) rfl rfl (Nat.le_of_ble_eq_true rfl) dX12_readHeld_40 (kVM (fun s11 hS_s11 hF_s11 q245 => ?_))
        refine j_aload_n hx 2 dX12_readHeld_43 rfl ?_
        refine j_callV hx hG (c_X12_fine hst a) lk_RX12_166 ha (by decide) rfl rfl rfl rfl [] ⟨rfl, hG, hS_s11, ha⟩ rfl rfl ⟨by decide, by decide⟩ ⟨by decide, by decide⟩ (k2 := 0) (n2 := 0) rfl rfl (Nat.le_of_ble_eq_true rfl) dX12_readHeld_44 (kIP (fun v246 q247 => ?_))
        refine j_if_ne hx 51 dX12_readHeld_47 rfl (by omega) (fun h248 => ?_) (fun h248 => ?_)
        · skip
          refine j_aload_n hx 2 dX12_readHeld_51 rfl ?_
          refine j_dup hx dX12_readHeld_52 rfl ?_
          have f249 := zf hS_s11 ha (k := 4) rfl
          refine g13_4 hx hG ha kf_RX12_143 rfl dX12_readHeld_53 ?_
          refine j_iconst hx dX12_readHeld_56 ?_
          refine j_iadd hx (r := (s11 a 4) + 1) dX12_readHeld_57 (by omega) ?_
          refine p13_4 hx hG ha kf_RX12_143 dX12_readHeld_58 ?_
          obtain ⟨s12, e_s12⟩ : ∃ z, z = zU s11 a 4 ((s11 a 4) + 1) := ⟨_, rfl⟩
          rw [← e_s12]
          have hS_s12 : zSK G s12 := by rw [e_s12]; exact zSK_F hS_s11 ha rfl rfl rfl (by omega)
          refine j_aload_n hx 2 dX12_readHeld_61 rfl ?_
          refine j_iload_n hx 1 dX12_readHeld_62 rfl ?_
          refine j_bipush hx dX12_readHeld_63 rfl ?_
          refine j_icmp_ne hx 72 dX12_readHeld_65 rfl (by omega) ⟨by decide, by decide⟩ (fun h250 => absurd h250 (by omega)) (fun h250 => ?_)
          refine j_iload_n hx 3 dX12_readHeld_68 rfl ?_
          refine j_goto hx 73 dX12_readHeld_69 rfl ?_
          refine j_aload_n hx 2 dX12_readHeld_73 rfl ?_
          refine j_iconst hx dX12_readHeld_74 ?_
          refine j_bipush hx dX12_readHeld_75 rfl ?_
          have g251 : s12 a 4 = (s11 a 4) + 1 := (by rw [e_s12, zU_eq])
          have g252 : s12 a 3 = s11 a 3 := (by rw [e_s12, zU_at (Or.inr (by decide))])
          have f253 := zf hS_s11 ha (k := 3) rfl
          have g254 : s12 a 5 = s11 a 5 := (by rw [e_s12, zU_at (Or.inr (by decide))])
          have f255 := zf hS_s11 ha (k := 5) rfl
          have g256 : s12 a 0 = s11 a 0 := (by rw [e_s12, zU_at (Or.inr (by decide))])
          have f257 := zf hS_s11 ha (k := 0) rfl
          have g258 : s12 a 7 = s11 a 7 := (by rw [e_s12, zU_at (Or.inr (by decide))])
          have f259 := zf hS_s11 ha (k := 7) rfl
          have g260 : s12 a 21 = s11 a 21 := (by rw [e_s12, zU_at (Or.inr (by decide))])
          have f261 := zf hS_s11 ha (k := 21) rfl
          have g262 : s12 a 22 = s11 a 22 := (by rw [e_s12, zU_at (Or.inr (by decide))])
          have f263 := zf hS_s11 ha (k := 22) rfl
          have g264 : s12 a 23 = s11 a 23 := (by rw [e_s12, zU_at (Or.inr (by decide))])
          have f265 := zf hS_s11 ha (k := 23) rfl
          have g266 : s12 a 24 = s11 a 24 := (by rw [e_s12, zU_at (Or.inr (by decide))])
          have f267 := zf hS_s11 ha (k := 24) rfl
          have g268 : s12 a 38 = s11 a 38 := (by rw [e_s12, zU_at (Or.inr (by decide))])
          have f269 := zf hS_s11 ha (k := 38) rfl
          have g270 : s12 a 51 = s11 a 51 := (by rw [e_s12, zU_at (Or.inr (by decide))])
          have f271 := zf hS_s11 ha (k := 51) rfl
          have g272 : s12 a 52 = s11 a 52 := (by rw [e_s12, zU_at (Or.inr (by decide))])
          have f273 := zf hS_s11 ha (k := 52) rfl
          refine j_callV hx hG (c_X12_readNumber_h hst a 0 60) lk_RX12_219 ha (by decide) rfl rfl rfl rfl [.int (zI 0), .int (zI 60)] ⟨rfl, hG, hS_s12, ha, (by omega), (by omega), (by omega)⟩ rfl rfl ⟨by decide, by decide⟩ ⟨by decide, by decide⟩ (k2 := 0) (n2 := 0) rfl rfl (Nat.le_of_ble_eq_true rfl) dX12_readHeld_77 (kIM (fun v274 s13 hS_s13 hF_s13 q275 => ?_))
          refine j_iconst hx dX12_readHeld_80 ?_
          have f276 := zf hS_s13 ha (k := 5) rfl
          have f277 := zf hS_s13 ha (k := 38) rfl
          have g278 : (s13 (gP G a 31)) = (s0 (gP G a 31)) := by rw [hF_s13 (gP G a 31) (by rw [(zr (k := 31) (t2 := 88) hG ha rfl)]; decide), e_s12, zU_ne (zne ha (zr (k := 31) (t2 := 88) hG ha rfl) (by decide)), hF_s11 (gP G a 31) (by rw [(zr (k := 31) (t2 := 88) hG ha rfl)]; decide), hF_s1 (gP G a 31) (by rw [(zr (k := 31) (t2 := 88) hG ha rfl)]; decide)]
          have g279 : zRp (s13 (gP G a 31)) 0 (s13 a 38).toNat = zRp (s0 (gP G a 31)) 0 (s0 a 38).toNat := by rw [g278, show s13 a 38 = s0 a 38 by omega]
          have f280 := zf hS_s13 ha (k := 0) rfl
          have f281 := zf hS_s13 ha (k := 3) rfl
          have f282 := zf hS_s13 ha (k := 4) rfl
          have f283 := zf hS_s13 ha (k := 7) rfl
          have f284 := zf hS_s13 ha (k := 21) rfl
          have f285 := zf hS_s13 ha (k := 22) rfl
          have f286 := zf hS_s13 ha (k := 23) rfl
          have f287 := zf hS_s13 ha (k := 24) rfl
          have f288 := zf hS_s13 ha (k := 51) rfl
          have f289 := zf hS_s13 ha (k := 52) rfl
          refine j_callV hx hG (c_X12_emit hst a x1 v274 0) lk_RX12_277 ha (by decide) rfl rfl rfl rfl [.int (zI x1), .int (zI v274), .int (zI 0)] ⟨rfl, hG, hS_s13, ha, (by omega), (by omega), (by omega), (by omega), ((by have q1 : s13 (gP G a 31) = s0 (gP G a 31) := (by rw [hF_s13 (gP G a 31) (by rw [(zr (k := 31) (t2 := 88) hG ha rfl)]; decide), e_s12, zU_ne (zne ha (zr (k := 31) (t2 := 88) hG ha rfl) (by decide)), hF_s11 (gP G a 31) (by rw [(zr (k := 31) (t2 := 88) hG ha rfl)]; decide), hF_s1 (gP G a 31) (by rw [(zr (k := 31) (t2 := 88) hG ha rfl)]; decide)]); have q2 : s13 (gP G a 32) = s0 (gP G a 32) := (by rw [hF_s13 (gP G a 32) (by rw [(zr (k := 32) (t2 := 89) hG ha rfl)]; decide), e_s12, zU_ne (zne ha (zr (k := 32) (t2 := 89) hG ha rfl) (by decide)), hF_s11 (gP G a 32) (by rw [(zr (k := 32) (t2 := 89) hG ha rfl)]; decide), hF_s1 (gP G a 32) (by rw [(zr (k := 32) (t2 := 89) hG ha rfl)]; decide)]); rw [q1, q2]; exact (zNv_k e3 (by omega) (by omega)))), (by omega)⟩ rfl rfl ⟨by decide, by decide⟩ ⟨by decide, by decide⟩ (k2 := 0) (n2 := 0) rfl rfl (Nat.le_of_ble_eq_true rfl) dX12_readHeld_81 (kVM (fun s14 hS_s14 hF_s14 q291 => ?_))
          have f292 := zf hS_s14 ha (k := 4) rfl
          have f293 := zf hS_s14 ha (k := 5) rfl
          have f294 := zf hS_s14 ha (k := 38) rfl
          have f295 := zf hS_s14 ha (k := 0) rfl
          have f296 := zf hS_s14 ha (k := 3) rfl
          have f297 := zf hS_s14 ha (k := 7) rfl
          have f298 := zf hS_s14 ha (k := 21) rfl
          have f299 := zf hS_s14 ha (k := 22) rfl
          have f300 := zf hS_s14 ha (k := 23) rfl
          have f301 := zf hS_s14 ha (k := 24) rfl
          have f302 := zf hS_s14 ha (k := 51) rfl
          have f303 := zf hS_s14 ha (k := 52) rfl
          exact j_vret hx hq rfl (by decide) (by decide) dX12_readHeld_84 ⟨rfl, rfl, hS_s14, (zFr_t (zFr_t (zFr_u (zFr_t (zFr_t zFr_rf hF_s1 (by decide)) hF_s11 (by decide)) e_s12 ha (by decide)) hF_s13 (by decide)) hF_s14 (by decide)), ⟨by omega, by omega, by omega, by omega, (zNv_k q291.2.1 (by omega) (by omega)), by omega, by omega, by omega, by omega, by omega, by omega, by omega, by omega, by omega⟩⟩
        · skip
          have f304 := zf hS_s11 ha (k := 4) rfl
          have f305 := zf hS_s11 ha (k := 5) rfl
          have f306 := zf hS_s11 ha (k := 38) rfl
          have g307 : (s11 (gP G a 31)) = (s0 (gP G a 31)) := by rw [hF_s11 (gP G a 31) (by rw [(zr (k := 31) (t2 := 88) hG ha rfl)]; decide), hF_s1 (gP G a 31) (by rw [(zr (k := 31) (t2 := 88) hG ha rfl)]; decide)]
          have g308 : zRp (s11 (gP G a 31)) 0 (s11 a 38).toNat = zRp (s0 (gP G a 31)) 0 (s0 a 38).toNat := by rw [g307, show s11 a 38 = s0 a 38 by omega]
          have f309 := zf hS_s11 ha (k := 0) rfl
          have f310 := zf hS_s11 ha (k := 3) rfl
          have f311 := zf hS_s11 ha (k := 7) rfl
          have f312 := zf hS_s11 ha (k := 21) rfl
          have f313 := zf hS_s11 ha (k := 22) rfl
          have f314 := zf hS_s11 ha (k := 23) rfl
          have f315 := zf hS_s11 ha (k := 24) rfl
          have f316 := zf hS_s11 ha (k := 51) rfl
          have f317 := zf hS_s11 ha (k := 52) rfl
          exact j_vret hx hq rfl (by decide) (by decide) dX12_readHeld_50 ⟨rfl, rfl, hS_s11, (zFr_t (zFr_t zFr_rf hF_s1 (by decide)) hF_s11 (by decide)), ⟨by omega, by omega, by omega, by omega, (by have q1 : s11 (gP G a 31) = s0 (gP G a 31) := (by rw [hF_s11 (gP G a 31) (by rw [(zr (k := 31) (t2 := 88) hG ha rfl)]; decide), hF_s1 (gP G a 31) (by rw [(zr (k := 31) (t2 := 88) hG ha rfl)]; decide)]); have q2 : s11 (gP G a 32) = s0 (gP G a 32) := (by rw [hF_s11 (gP G a 32) (by rw [(zr (k := 32) (t2 := 89) hG ha rfl)]; decide), hF_s1 (gP G a 32) (by rw [(zr (k := 32) (t2 := 89) hG ha rfl)]; decide)]); rw [q1, q2]; exact (zNv_k e3 (by omega) (by omega))), by omega, by omega, by omega, by omega, by omega, by omega, by omega, by omega, by omega⟩⟩
      · skip
        refine j_iconst hx dX12_readHeld_22 ?_
        refine j_goto hx 27 dX12_readHeld_23 rfl ?_
        refine j_istore hx [(4, .int (zI 1)), (3, .int (zI v13)), (0, .ref a), (1, .int (zI x1)), (2, .int (zI x2))] dX12_readHeld_27 (by decide) rfl ?_
        refine j_iload hx 0 dX12_readHeld_29 rfl ?_
        refine j_if_ne hx 43 dX12_readHeld_31 rfl ⟨by decide, by decide⟩ (fun h318 => ?_) (fun h318 => absurd h318 (by omega))
        refine j_aload_n hx 2 dX12_readHeld_43 rfl ?_
        refine j_callV hx hG (c_X12_fine hst a) lk_RX12_166 ha (by decide) rfl rfl rfl rfl [] ⟨rfl, hG, hS_s1, ha⟩ rfl rfl ⟨by decide, by decide⟩ ⟨by decide, by decide⟩ (k2 := 0) (n2 := 0) rfl rfl (Nat.le_of_ble_eq_true rfl) dX12_readHeld_44 (kIP (fun v319 q320 => ?_))
        refine j_if_ne hx 51 dX12_readHeld_47 rfl (by omega) (fun h321 => ?_) (fun h321 => ?_)
        · skip
          refine j_aload_n hx 2 dX12_readHeld_51 rfl ?_
          refine j_dup hx dX12_readHeld_52 rfl ?_
          have f322 := zf hS_s1 ha (k := 4) rfl
          refine g13_4 hx hG ha kf_RX12_143 rfl dX12_readHeld_53 ?_
          refine j_iconst hx dX12_readHeld_56 ?_
          refine j_iadd hx (r := (s1 a 4) + 1) dX12_readHeld_57 (by omega) ?_
          refine p13_4 hx hG ha kf_RX12_143 dX12_readHeld_58 ?_
          obtain ⟨s15, e_s15⟩ : ∃ z, z = zU s1 a 4 ((s1 a 4) + 1) := ⟨_, rfl⟩
          rw [← e_s15]
          have hS_s15 : zSK G s15 := by rw [e_s15]; exact zSK_F hS_s1 ha rfl rfl rfl (by omega)
          refine j_aload_n hx 2 dX12_readHeld_61 rfl ?_
          refine j_iload_n hx 1 dX12_readHeld_62 rfl ?_
          refine j_bipush hx dX12_readHeld_63 rfl ?_
          refine j_icmp_ne hx 72 dX12_readHeld_65 rfl (by omega) ⟨by decide, by decide⟩ (fun h323 => absurd h323 (by omega)) (fun h323 => ?_)
          refine j_iload_n hx 3 dX12_readHeld_68 rfl ?_
          refine j_goto hx 73 dX12_readHeld_69 rfl ?_
          refine j_aload_n hx 2 dX12_readHeld_73 rfl ?_
          refine j_iconst hx dX12_readHeld_74 ?_
          refine j_bipush hx dX12_readHeld_75 rfl ?_
          have g324 : s15 a 4 = (s1 a 4) + 1 := (by rw [e_s15, zU_eq])
          have g325 : s15 a 3 = s1 a 3 := (by rw [e_s15, zU_at (Or.inr (by decide))])
          have f326 := zf hS_s1 ha (k := 3) rfl
          have g327 : s15 a 5 = s1 a 5 := (by rw [e_s15, zU_at (Or.inr (by decide))])
          have f328 := zf hS_s1 ha (k := 5) rfl
          have g329 : s15 a 0 = s1 a 0 := (by rw [e_s15, zU_at (Or.inr (by decide))])
          have f330 := zf hS_s1 ha (k := 0) rfl
          have g331 : s15 a 7 = s1 a 7 := (by rw [e_s15, zU_at (Or.inr (by decide))])
          have f332 := zf hS_s1 ha (k := 7) rfl
          have g333 : s15 a 21 = s1 a 21 := (by rw [e_s15, zU_at (Or.inr (by decide))])
          have f334 := zf hS_s1 ha (k := 21) rfl
          have g335 : s15 a 22 = s1 a 22 := (by rw [e_s15, zU_at (Or.inr (by decide))])
          have f336 := zf hS_s1 ha (k := 22) rfl
          have g337 : s15 a 23 = s1 a 23 := (by rw [e_s15, zU_at (Or.inr (by decide))])
          have f338 := zf hS_s1 ha (k := 23) rfl
          have g339 : s15 a 24 = s1 a 24 := (by rw [e_s15, zU_at (Or.inr (by decide))])
          have f340 := zf hS_s1 ha (k := 24) rfl
          have g341 : s15 a 38 = s1 a 38 := (by rw [e_s15, zU_at (Or.inr (by decide))])
          have f342 := zf hS_s1 ha (k := 38) rfl
          have g343 : s15 a 51 = s1 a 51 := (by rw [e_s15, zU_at (Or.inr (by decide))])
          have f344 := zf hS_s1 ha (k := 51) rfl
          have g345 : s15 a 52 = s1 a 52 := (by rw [e_s15, zU_at (Or.inr (by decide))])
          have f346 := zf hS_s1 ha (k := 52) rfl
          refine j_callV hx hG (c_X12_readNumber_h hst a 0 60) lk_RX12_219 ha (by decide) rfl rfl rfl rfl [.int (zI 0), .int (zI 60)] ⟨rfl, hG, hS_s15, ha, (by omega), (by omega), (by omega)⟩ rfl rfl ⟨by decide, by decide⟩ ⟨by decide, by decide⟩ (k2 := 0) (n2 := 0) rfl rfl (Nat.le_of_ble_eq_true rfl) dX12_readHeld_77 (kIM (fun v347 s16 hS_s16 hF_s16 q348 => ?_))
          refine j_iconst hx dX12_readHeld_80 ?_
          have f349 := zf hS_s16 ha (k := 5) rfl
          have f350 := zf hS_s16 ha (k := 38) rfl
          have g351 : (s16 (gP G a 31)) = (s0 (gP G a 31)) := by rw [hF_s16 (gP G a 31) (by rw [(zr (k := 31) (t2 := 88) hG ha rfl)]; decide), e_s15, zU_ne (zne ha (zr (k := 31) (t2 := 88) hG ha rfl) (by decide)), hF_s1 (gP G a 31) (by rw [(zr (k := 31) (t2 := 88) hG ha rfl)]; decide)]
          have g352 : zRp (s16 (gP G a 31)) 0 (s16 a 38).toNat = zRp (s0 (gP G a 31)) 0 (s0 a 38).toNat := by rw [g351, show s16 a 38 = s0 a 38 by omega]
          have f353 := zf hS_s16 ha (k := 0) rfl
          have f354 := zf hS_s16 ha (k := 3) rfl
          have f355 := zf hS_s16 ha (k := 4) rfl
          have f356 := zf hS_s16 ha (k := 7) rfl
          have f357 := zf hS_s16 ha (k := 21) rfl
          have f358 := zf hS_s16 ha (k := 22) rfl
          have f359 := zf hS_s16 ha (k := 23) rfl
          have f360 := zf hS_s16 ha (k := 24) rfl
          have f361 := zf hS_s16 ha (k := 51) rfl
          have f362 := zf hS_s16 ha (k := 52) rfl
          refine j_callV hx hG (c_X12_emit hst a x1 v347 0) lk_RX12_277 ha (by decide) rfl rfl rfl rfl [.int (zI x1), .int (zI v347), .int (zI 0)] ⟨rfl, hG, hS_s16, ha, (by omega), (by omega), (by omega), (by omega), ((by have q1 : s16 (gP G a 31) = s0 (gP G a 31) := (by rw [hF_s16 (gP G a 31) (by rw [(zr (k := 31) (t2 := 88) hG ha rfl)]; decide), e_s15, zU_ne (zne ha (zr (k := 31) (t2 := 88) hG ha rfl) (by decide)), hF_s1 (gP G a 31) (by rw [(zr (k := 31) (t2 := 88) hG ha rfl)]; decide)]); have q2 : s16 (gP G a 32) = s0 (gP G a 32) := (by rw [hF_s16 (gP G a 32) (by rw [(zr (k := 32) (t2 := 89) hG ha rfl)]; decide), e_s15, zU_ne (zne ha (zr (k := 32) (t2 := 89) hG ha rfl) (by decide)), hF_s1 (gP G a 32) (by rw [(zr (k := 32) (t2 := 89) hG ha rfl)]; decide)]); rw [q1, q2]; exact (zNv_k e3 (by omega) (by omega)))), (by omega)⟩ rfl rfl ⟨by decide, by decide⟩ ⟨by decide, by decide⟩ (k2 := 0) (n2 := 0) rfl rfl (Nat.le_of_ble_eq_true rfl) dX12_readHeld_81 (kVM (fun s17 hS_s17 hF_s17 q364 => ?_))
          have f365 := zf hS_s17 ha (k := 4) rfl
          have f366 := zf hS_s17 ha (k := 5) rfl
          have f367 := zf hS_s17 ha (k := 38) rfl
          have f368 := zf hS_s17 ha (k := 0) rfl
          have f369 := zf hS_s17 ha (k := 3) rfl
          have f370 := zf hS_s17 ha (k := 7) rfl
          have f371 := zf hS_s17 ha (k := 21) rfl
          have f372 := zf hS_s17 ha (k := 22) rfl
          have f373 := zf hS_s17 ha (k := 23) rfl
          have f374 := zf hS_s17 ha (k := 24) rfl
          have f375 := zf hS_s17 ha (k := 51) rfl
          have f376 := zf hS_s17 ha (k := 52) rfl
          exact j_vret hx hq rfl (by decide) (by decide) dX12_readHeld_84 ⟨rfl, rfl, hS_s17, (zFr_t (zFr_t (zFr_u (zFr_t zFr_rf hF_s1 (by decide)) e_s15 ha (by decide)) hF_s16 (by decide)) hF_s17 (by decide)), ⟨by omega, by omega, by omega, by omega, (zNv_k q364.2.1 (by omega) (by omega)), by omega, by omega, by omega, by omega, by omega, by omega, by omega, by omega, by omega⟩⟩
        · skip
          have f377 := zf hS_s1 ha (k := 4) rfl
          have f378 := zf hS_s1 ha (k := 5) rfl
          have f379 := zf hS_s1 ha (k := 38) rfl
          have g380 : (s1 (gP G a 31)) = (s0 (gP G a 31)) := by rw [hF_s1 (gP G a 31) (by rw [(zr (k := 31) (t2 := 88) hG ha rfl)]; decide)]
          have g381 : zRp (s1 (gP G a 31)) 0 (s1 a 38).toNat = zRp (s0 (gP G a 31)) 0 (s0 a 38).toNat := by rw [g380, show s1 a 38 = s0 a 38 by omega]
          have f382 := zf hS_s1 ha (k := 0) rfl
          have f383 := zf hS_s1 ha (k := 3) rfl
          have f384 := zf hS_s1 ha (k := 7) rfl
          have f385 := zf hS_s1 ha (k := 21) rfl
          have f386 := zf hS_s1 ha (k := 22) rfl
          have f387 := zf hS_s1 ha (k := 23) rfl
          have f388 := zf hS_s1 ha (k := 24) rfl
          have f389 := zf hS_s1 ha (k := 51) rfl
          have f390 := zf hS_s1 ha (k := 52) rfl
          exact j_vret hx hq rfl (by decide) (by decide) dX12_readHeld_50 ⟨rfl, rfl, hS_s1, (zFr_t zFr_rf hF_s1 (by decide)), ⟨by omega, by omega, by omega, by omega, (by have q1 : s1 (gP G a 31) = s0 (gP G a 31) := (by rw [hF_s1 (gP G a 31) (by rw [(zr (k := 31) (t2 := 88) hG ha rfl)]; decide)]); have q2 : s1 (gP G a 32) = s0 (gP G a 32) := (by rw [hF_s1 (gP G a 32) (by rw [(zr (k := 32) (t2 := 89) hG ha rfl)]; decide)]); rw [q1, q2]; exact (zNv_k e3 (by omega) (by omega))), by omega, by omega, by omega, by omega, by omega, by omega, by omega, by omega, by omega⟩⟩
