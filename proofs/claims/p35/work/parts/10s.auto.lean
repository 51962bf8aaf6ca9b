theorem zRv_nn {f g : Nat → Int} {n : Int} (h : zRv f g 0 n) : 0 ≤ zRp f 0 n.toNat := by
  have key : ∀ m : Nat, (m : Int) ≤ n → 0 ≤ zRp f 0 m := by
    intro m
    induction m with
    | zero => intro _; exact Int.le_refl _
    | succ m ih =>
      intro hm
      have i := ih (by omega)
      obtain ⟨h1, h2, -⟩ := h m (by omega) (by omega)
      have e1 : ((m : Int)).toNat = m := by omega
      have e2 : ((m : Int) - 0).toNat = m := by omega
      rw [e1, e2] at h1 h2
      rw [zRp, show ((0 : Int) + (m : Int)).toNat = m by omega]
      split
      · exact i
      · split
        · have := h2 (by assumption); omega
        · omega
  by_cases h0 : 0 ≤ n
  · exact key n.toNat (by omega)
  · rw [show n.toNat = 0 by omega]; exact Int.le_refl _

set_option maxHeartbeats 1200000 in
set_option maxRecDepth 20000 in
theorem c_X12_here_h {E : zE} {l : Launch} (hst : l.stackTraces = false) (a : Nat) : Con E l yX12_here cX12_here 1 (some .int) { frames := 0, cells := 0, slots := 0, locals := 0 } (fun G s vs => vs = [.ref a] ∧ zGK G ∧ zSK G s ∧ (gT G a = 13) ∧ (s a 4 ≤ s a 3 + 2)) (fun G s _ => pI (fun r G2 s2 => G2 = G ∧ zSK G s2 ∧ zFr [13] G s s2 ∧ (0 ≤ r ∧ r ≤ 255) ∧ s a 4 ≤ s2 a 4 ∧ (r ≠ 0 → s2 a 4 < s a 3) ∧ s2 a 4 ≤ s a 3 + 2 ∧ (s a 4 ≤ s a 3 → s2 a 4 ≤ s a 3) ∧ s2 a 0 = s a 0 ∧ s2 a 3 = s a 3 ∧ s2 a 5 = s a 5 ∧ s2 a 7 = s a 7 ∧ s2 a 21 = s a 21 ∧ s2 a 22 = s a 22 ∧ s2 a 23 = s a 23 ∧ s2 a 24 = s a 24 ∧ s2 a 38 = s a 38 ∧ s2 a 51 = s a 51 ∧ s2 a 52 = s a 52)) := by
  refine Con.mk hst (by decide) (fun G s vs h => by rw [h.1]; exact Nat.le_of_ble_eq_true rfl) ?_
  rintro X G s0 vs ⟨rfl, hG, hS0, ha, e0⟩ rfl hx hq
  show JJ X E 1 G s0 0 0 [(0, .ref a)] 0 []
  have f1 := zf hS0 ha (k := 0) rfl
  have f2 := zf hS0 ha (k := 3) rfl
  have f3 := zf hS0 ha (k := 5) rfl
  have f4 := zf hS0 ha (k := 7) rfl
  have f5 := zf hS0 ha (k := 21) rfl
  have f6 := zf hS0 ha (k := 22) rfl
  have f7 := zf hS0 ha (k := 23) rfl
  have f8 := zf hS0 ha (k := 24) rfl
  have f9 := zf hS0 ha (k := 38) rfl
  have f10 := zf hS0 ha (k := 51) rfl
  have f11 := zf hS0 ha (k := 52) rfl
  have f12 := zf hS0 ha (k := 4) rfl
  have c0_1 : ∀ (m_c0_1 : Nat) (s2 : zS), 1000 - s2 a 4 < m_c0_1 → (zSK G s2) → (zFr [13] G s0 s2) → (s2 a 0 = s0 a 0) → (s2 a 3 = s0 a 3) → (s2 a 5 = s0 a 5) → (s2 a 7 = s0 a 7) → (s2 a 21 = s0 a 21) → (s2 a 22 = s0 a 22) → (s2 a 23 = s0 a 23) → (s2 a 24 = s0 a 24) → (s2 a 38 = s0 a 38) → (s2 a 51 = s0 a 51) → (s2 a 52 = s0 a 52) → (s0 a 4 ≤ s2 a 4) → (s2 a 4 ≤ s2 a 3 + 2) → (s0 a 4 ≤ s0 a 3 → s2 a 4 ≤ s2 a 3) → JJ X E 1 G s2 0 0 [(0, .ref a)] 0 [] := by
    intro m_c0_1
    induction m_c0_1 with
    | zero => intro s2 hm_c0_1 hS_s2 hF_s2 fA5 fA6 fA7 fA8 fA9 fA10 fA11 fA12 fA13 fA14 fA15 fA16 fA17 fA18; exfalso; omega
    | succ m_c0_1 ih_c0_1 => 
      intro s2 hm_c0_1 hS_s2 hF_s2 fA5 fA6 fA7 fA8 fA9 fA10 fA11 fA12 fA13 fA14 fA15 fA16 fA17 fA18
      refine j_aload_n hx 0 dX12_here_0 rfl ?_
      have f13 := zf hS_s2 ha (k := 4) rfl
      refine g13_4 hx hG ha kf_RX12_143 rfl dX12_here_1 ?_
      refine j_aload_n hx 0 dX12_here_4 rfl ?_
      have f14 := zf hS_s2 ha (k := 3) rfl
      refine g13_3 hx hG ha kf_RX12_146 rfl dX12_here_5 ?_
      have c38_19 : JJ X E 1 G s2 0 0 [(0, .ref a)] 38 [] := by
        refine j_aload_n hx 0 dX12_here_38 rfl ?_
        refine g13_4 hx hG ha kf_RX12_143 rfl dX12_here_39 ?_
        refine j_aload_n hx 0 dX12_here_42 rfl ?_
        refine g13_3 hx hG ha kf_RX12_146 rfl dX12_here_43 ?_
        refine j_icmp_ge hx 61 dX12_here_46 rfl (by omega) (by omega) (fun h15 => ?_) (fun h15 => ?_)
        · skip
          refine j_iconst hx dX12_here_61 ?_
          have f16 := zf hS_s2 ha (k := 0) rfl
          have f17 := zf hS_s2 ha (k := 5) rfl
          have f18 := zf hS_s2 ha (k := 7) rfl
          have f19 := zf hS_s2 ha (k := 21) rfl
          have f20 := zf hS_s2 ha (k := 22) rfl
          have f21 := zf hS_s2 ha (k := 23) rfl
          have f22 := zf hS_s2 ha (k := 24) rfl
          have f23 := zf hS_s2 ha (k := 38) rfl
          have f24 := zf hS_s2 ha (k := 51) rfl
          have f25 := zf hS_s2 ha (k := 52) rfl
          exact j_iret hx hq rfl (by decide) (by decide) dX12_here_62 ⟨0, rfl, rfl, hS_s2, (zFr_t zFr_rf hF_s2 (by decide)), ⟨(by omega), by omega, by omega, by omega, by omega, by omega, by omega, by omega, by omega, by omega, by omega, by omega, by omega, by omega, by omega, by omega⟩⟩
        · skip
          refine j_aload_n hx 0 dX12_here_49 rfl ?_
          refine g13_9 hx hG ha kf_RX12_20 dX12_here_50 ?_
          refine j_aload_n hx 0 dX12_here_53 rfl ?_
          refine g13_4 hx hG ha kf_RX12_143 rfl dX12_here_54 ?_
          have f26 := zaI (j := ((s2 a 4)).toNat) hS0 (zr (k := 9) (t2 := 72) hG ha rfl) rfl (zlen hG (zr (k := 9) (t2 := 72) hG ha rfl) (n := 600) rfl rfl) (show 0 ≤ (s2 a 4) by omega) (by omega) rfl
          refine j_iald hx hG (zr (k := 9) (t2 := 72) hG ha rfl) (by decide) rfl (zlen hG (zr (k := 9) (t2 := 72) hG ha rfl) (n := 600) rfl rfl) (by omega) (by omega) (j := ((s2 a 4)).toNat) rfl (v := (s0 (gP G a 9) ((s2 a 4)).toNat)) (by rw [(zFr_g hF_s2 (zr (k := 9) (t2 := 72) hG ha rfl) (by decide))]) dX12_here_57 ?_
          refine j_goto hx 62 dX12_here_58 rfl ?_
          have f27 := zf hS_s2 ha (k := 0) rfl
          have f28 := zf hS_s2 ha (k := 5) rfl
          have f29 := zf hS_s2 ha (k := 7) rfl
          have f30 := zf hS_s2 ha (k := 21) rfl
          have f31 := zf hS_s2 ha (k := 22) rfl
          have f32 := zf hS_s2 ha (k := 23) rfl
          have f33 := zf hS_s2 ha (k := 24) rfl
          have f34 := zf hS_s2 ha (k := 38) rfl
          have f35 := zf hS_s2 ha (k := 51) rfl
          have f36 := zf hS_s2 ha (k := 52) rfl
          exact j_iret hx hq rfl (by decide) (by decide) dX12_here_62 ⟨(s0 (gP G a 9) ((s2 a 4)).toNat), rfl, rfl, hS_s2, (zFr_t zFr_rf hF_s2 (by decide)), ⟨(by omega), by omega, by omega, by omega, by omega, by omega, by omega, by omega, by omega, by omega, by omega, by omega, by omega, by omega, by omega, by omega⟩⟩
      refine j_icmp_ge hx 38 dX12_here_8 rfl (by omega) (by omega) (fun h37 => ?_) (fun h37 => ?_)
      · skip
        exact j_sub [0] [(0, .ref a)] rfl (c38_19  )
      · skip
        refine j_aload_n hx 0 dX12_here_11 rfl ?_
        refine g13_9 hx hG ha kf_RX12_20 dX12_here_12 ?_
        refine j_aload_n hx 0 dX12_here_15 rfl ?_
        refine g13_4 hx hG ha kf_RX12_143 rfl dX12_here_16 ?_
        have f38 := zaI (j := ((s2 a 4)).toNat) hS0 (zr (k := 9) (t2 := 72) hG ha rfl) rfl (zlen hG (zr (k := 9) (t2 := 72) hG ha rfl) (n := 600) rfl rfl) (show 0 ≤ (s2 a 4) by omega) (by omega) rfl
        refine j_iald hx hG (zr (k := 9) (t2 := 72) hG ha rfl) (by decide) rfl (zlen hG (zr (k := 9) (t2 := 72) hG ha rfl) (n := 600) rfl rfl) (by omega) (by omega) (j := ((s2 a 4)).toNat) rfl (v := (s0 (gP G a 9) ((s2 a 4)).toNat)) (by rw [(zFr_g hF_s2 (zr (k := 9) (t2 := 72) hG ha rfl) (by decide))]) dX12_here_19 ?_
        refine j_bipush hx dX12_here_20 rfl ?_
        refine j_icmp_ne hx 38 dX12_here_22 rfl (by omega) ⟨by decide, by decide⟩ (fun h39 => ?_) (fun h39 => ?_)
        · skip
          exact j_sub [0] [(0, .ref a)] rfl (c38_19  )
        · skip
          refine j_aload_n hx 0 dX12_here_25 rfl ?_
          refine j_dup hx dX12_here_26 rfl ?_
          refine g13_4 hx hG ha kf_RX12_143 rfl dX12_here_27 ?_
          refine j_iconst hx dX12_here_30 ?_
          refine j_iadd hx (r := (s2 a 4) + 1) dX12_here_31 (by omega) ?_
          refine p13_4 hx hG ha kf_RX12_143 dX12_here_32 ?_
          obtain ⟨s20, e_s20⟩ : ∃ z, z = zU s2 a 4 ((s2 a 4) + 1) := ⟨_, rfl⟩
          rw [← e_s20]
          have hS_s20 : zSK G s20 := by rw [e_s20]; exact zSK_F hS_s2 ha rfl rfl rfl (by omega)
          refine j_goto hx 0 dX12_here_35 rfl ?_
          have g40 : s20 a 4 = (s2 a 4) + 1 := (by rw [e_s20, zU_eq])
          have g41 : s20 a 0 = s2 a 0 := (by rw [e_s20, zU_at (Or.inr (by decide))])
          have f42 := zf hS_s2 ha (k := 0) rfl
          have g43 : s20 a 3 = s2 a 3 := (by rw [e_s20, zU_at (Or.inr (by decide))])
          have g44 : s20 a 5 = s2 a 5 := (by rw [e_s20, zU_at (Or.inr (by decide))])
          have f45 := zf hS_s2 ha (k := 5) rfl
          have g46 : s20 a 7 = s2 a 7 := (by rw [e_s20, zU_at (Or.inr (by decide))])
          have f47 := zf hS_s2 ha (k := 7) rfl
          have g48 : s20 a 21 = s2 a 21 := (by rw [e_s20, zU_at (Or.inr (by decide))])
          have f49 := zf hS_s2 ha (k := 21) rfl
          have g50 : s20 a 22 = s2 a 22 := (by rw [e_s20, zU_at (Or.inr (by decide))])
          have f51 := zf hS_s2 ha (k := 22) rfl
          have g52 : s20 a 23 = s2 a 23 := (by rw [e_s20, zU_at (Or.inr (by decide))])
          have f53 := zf hS_s2 ha (k := 23) rfl
          have g54 : s20 a 24 = s2 a 24 := (by rw [e_s20, zU_at (Or.inr (by decide))])
          have f55 := zf hS_s2 ha (k := 24) rfl
          have g56 : s20 a 38 = s2 a 38 := (by rw [e_s20, zU_at (Or.inr (by decide))])
          have f57 := zf hS_s2 ha (k := 38) rfl
          have g58 : s20 a 51 = s2 a 51 := (by rw [e_s20, zU_at (Or.inr (by decide))])
          have f59 := zf hS_s2 ha (k := 51) rfl
          have g60 : s20 a 52 = s2 a 52 := (by rw [e_s20, zU_at (Or.inr (by decide))])
          have f61 := zf hS_s2 ha (k := 52) rfl
          exact j_sub [0] [(0, .ref a)] rfl (ih_c0_1 s20 (by omega) hS_s20 (zFr_u (zFr_t zFr_rf hF_s2 (by decide)) e_s20 ha (by decide)) (by omega) (by omega) (by omega) (by omega) (by omega) (by omega) (by omega) (by omega) (by omega) (by omega) (by omega) (by omega) (by omega) (by omega))
  exact j_sub [0] [(0, .ref a)] rfl (c0_1 (2147483648 * 4) s0 (by omega) hS0 zFr_rf (by omega) (by omega) (by omega) (by omega) (by omega) (by omega) (by omega) (by omega) (by omega) (by omega) (by omega) (by omega) (by omega) (by omega))
