/-! the JDK's own methods on texts -/
theorem zchar : ∀ m : Nat, m < 256 → narrow .char (.int (zI (m : Int))) = .int (zI (m : Int)) := by decide +kernel
theorem zchar' {v : Int} (h0 : 0 ≤ v) (h1 : v ≤ 255) : narrow .char (.int (zI v)) = .int (zI v) := by
  have h := zchar v.toNat (by omega)
  rwa [show ((v.toNat : Nat) : Int) = v by omega] at h
theorem zand255 : ∀ m : Nat, m < 256 → (zI (m : Int) &&& zI 255).toInt = (m : Int) := by decide +kernel
theorem zand' {v : Int} (h0 : 0 ≤ v) (h1 : v ≤ 255) : (zI v &&& zI 255).toInt = v := by
  have h := zand255 v.toNat (by omega)
  rwa [show ((v.toNat : Nat) : Int) = v by omega] at h
theorem c_J0_coder {E : zE} {l : Launch} (hst : l.stackTraces = false) (b1 : Nat) : Con E l yJ0_coder_7d493 cJ0_coder_7d493 1 (some .byte) { frames := 1, cells := 0, slots := 0, locals := 20 } (fun G s vs => vs = [.ref (zTa E b1)] ∧ zGK G ∧ zSK G s ∧ b1 < txN) (fun G s _ => pI (fun r G2 s2 => G2 = G ∧ s2 = s ∧ r = 0)) := by
  refine Con.mk hst (by decide) (fun G s vs h => by rw [h.1]; exact Nat.le_of_ble_eq_true rfl) ?_
  rintro X G s0 vs ⟨rfl, hG, hS0, hi⟩ rfl hx hq
  show JJ X E 1 G s0 0 0 [(0, .ref (zTa E b1))] 0 []
  refine j_getsC hx kf_RJ0_38 dJ0_coder_7d493_0 ?_
  refine j_if_eq hx 13 dJ0_coder_7d493_3 rfl ⟨by decide, by decide⟩ (fun h => absurd h (by decide)) (fun h => ?_)
  refine j_aload_n hx 0 dJ0_coder_7d493_6 rfl ?_
  refine j_getTc hx hi kf_RJ0_15 dJ0_coder_7d493_7 ?_
  refine j_goto hx 14 dJ0_coder_7d493_10 rfl ?_
  exact j_bret hx hq rfl (by decide) (by decide) dJ0_coder_7d493_14 rfl ⟨0, rfl, rfl, rfl, rfl⟩
theorem ljk_335 : LkV RJ0 335 RJ0 yJ0_coder_7d493 cJ0_coder_7d493 1 (some .byte) 0 := ⟨km_RJ0_335, ki_yJ0_coder_7d493, ks_RJ0_yJ0_coder_7d493, kn_RJ0, kc_yJ0_coder_7d493, rfl, by decide +kernel, by decide +kernel, by decide +kernel⟩
theorem c_J0_length {E : zE} {l : Launch} (hst : l.stackTraces = false) (b1 : Nat) : Con E l yJ0_length_8abf5 cJ0_length_8abf5 1 (some .int) { frames := 2, cells := 0, slots := 0, locals := 60 } (fun G s vs => vs = [.ref (zTa E b1)] ∧ zGK G ∧ zSK G s ∧ b1 < txN) (fun G s _ => pI (fun r G2 s2 => G2 = G ∧ s2 = s ∧ (2 ≤ r ∧ r ≤ 6) ∧ r = tL b1)) := by
  refine Con.mk hst (by decide) (fun G s vs h => by rw [h.1]; exact Nat.le_of_ble_eq_true rfl) ?_
  rintro X G s0 vs ⟨rfl, hG, hS0, hi⟩ rfl hx hq
  show JJ X E 1 G s0 0 0 [(0, .ref (zTa E b1))] 0 []
  have hb := tL_b b1 hi
  refine j_aload_n hx 0 dJ0_length_8abf5_0 rfl ?_
  refine j_getTv hx hi kf_RJ0_9 dJ0_length_8abf5_1 ?_
  refine j_alenT hx hi dJ0_length_8abf5_4 ?_
  refine j_aload_n hx 0 dJ0_length_8abf5_5 rfl ?_
  refine j_callVT hx (c_J0_coder hst b1) ljk_335 hi [] ⟨rfl, hG, hS0, hi⟩ rfl rfl ⟨by decide, by decide⟩ ⟨by decide, by decide⟩ (k2 := 0) (n2 := 0) rfl rfl (Nat.le_of_ble_eq_true rfl) dJ0_length_8abf5_6 (kIP (fun v1 q1 => ?_))
  subst q1
  refine j_ishr hx 0 1 dJ0_length_8abf5_9 ⟨by omega, by omega⟩ rfl (by decide) (by decide) (fun v f1 f2 f3 f4 => ?_)
  exact j_iret hx hq rfl (by decide) (by decide) dJ0_length_8abf5_10 ⟨v, rfl, rfl, rfl, by omega, by omega⟩
theorem c_J0_isLatin1 {E : zE} {l : Launch} (hst : l.stackTraces = false) (b1 : Nat) : Con E l yJ0_isLatin1_aae02 cJ0_isLatin1_aae02 1 (some .boolean) { frames := 1, cells := 0, slots := 0, locals := 20 } (fun G s vs => vs = [.ref (zTa E b1)] ∧ zGK G ∧ zSK G s ∧ b1 < txN) (fun G s _ => pI (fun r G2 s2 => G2 = G ∧ s2 = s ∧ r = 1)) := by
  refine Con.mk hst (by decide) (fun G s vs h => by rw [h.1]; exact Nat.le_of_ble_eq_true rfl) ?_
  rintro X G s0 vs ⟨rfl, hG, hS0, hi⟩ rfl hx hq
  show JJ X E 1 G s0 0 0 [(0, .ref (zTa E b1))] 0 []
  refine j_getsC hx kf_RJ0_38 dJ0_isLatin1_aae02_0 ?_
  refine j_if_eq hx 17 dJ0_isLatin1_aae02_3 rfl ⟨by decide, by decide⟩ (fun h => absurd h (by decide)) (fun h => ?_)
  refine j_aload_n hx 0 dJ0_isLatin1_aae02_6 rfl ?_
  refine j_getTc hx hi kf_RJ0_15 dJ0_isLatin1_aae02_7 ?_
  refine j_if_ne hx 17 dJ0_isLatin1_aae02_10 rfl ⟨by decide, by decide⟩ (fun h => absurd h (by decide)) (fun h => ?_)
  refine j_iconst hx dJ0_isLatin1_aae02_13 ?_
  refine j_goto hx 18 dJ0_isLatin1_aae02_14 rfl ?_
  exact j_zret hx hq rfl (by decide) (by decide) dJ0_isLatin1_aae02_18 (Or.inr rfl) ⟨1, rfl, rfl, rfl, rfl⟩
theorem c_J3_checkIndex {E : zE} {l : Launch} (hst : l.stackTraces = false) (x0 x1 : Int) (o : Option Nat) : Con E l yJ3_checkIndex_8e157 cJ3_checkIndex_8e157 3 (some .int) { frames := 1, cells := 0, slots := 0, locals := 20 } (fun G s vs => vs = [.int (zI x0), .int (zI x1), va_rf o] ∧ zGK G ∧ zSK G s ∧ (0 ≤ x0 ∧ x0 < x1 ∧ x1 ≤ 1000)) (fun G s _ => pI (fun r G2 s2 => G2 = G ∧ s2 = s ∧ r = x0)) := by
  refine Con.mk hst (by decide) (fun G s vs h => by rw [h.1]; cases o <;> exact Nat.le_of_ble_eq_true rfl) ?_
  rintro X G s0 vs ⟨rfl, hG, hS0, hi⟩ rfl hx hq
  show JJ X E 3 G s0 0 0 [(0, .int (zI x0)), (1, .int (zI x1)), (2, va_rf o)] 0 []
  refine j_iload_n hx 0 dJ3_checkIndex_8e157_0 rfl ?_
  refine j_if_lt hx 9 dJ3_checkIndex_8e157_1 rfl (by omega) (fun h => absurd h (by omega)) (fun h => ?_)
  refine j_iload_n hx 0 dJ3_checkIndex_8e157_4 rfl ?_
  refine j_iload_n hx 1 dJ3_checkIndex_8e157_5 rfl ?_
  refine j_icmp_lt hx 16 dJ3_checkIndex_8e157_6 rfl (by omega) (by omega) (fun h => ?_) (fun h => absurd h (by omega))
  refine j_iload_n hx 0 dJ3_checkIndex_8e157_16 rfl ?_
  exact j_iret hx hq rfl (by decide) (by decide) dJ3_checkIndex_8e157_17 ⟨x0, rfl, rfl, rfl, rfl⟩
theorem ljk_1059 : LkS RJ0 1059 yJ3_checkIndex_8e157 cJ3_checkIndex_8e157 3 (some .int) 3 := ⟨km_RJ0_1059, kst_yJ3_checkIndex_8e157, kn_RJ3, kc_yJ3_checkIndex_8e157, by decide +kernel, by decide +kernel, by decide +kernel⟩
theorem c_J0_checkIndex {E : zE} {l : Launch} (hst : l.stackTraces = false) (x0 x1 : Int) : Con E l yJ0_checkIndex_df160 cJ0_checkIndex_df160 2 none { frames := 2, cells := 0, slots := 0, locals := 60 } (fun G s vs => vs = [.int (zI x0), .int (zI x1)] ∧ zGK G ∧ zSK G s ∧ (0 ≤ x0 ∧ x0 < x1 ∧ x1 ≤ 1000)) (fun G s _ => pV (fun G2 s2 => G2 = G ∧ s2 = s ∧ True)) := by
  refine Con.mk hst (by decide) (fun G s vs h => by rw [h.1]; exact Nat.le_of_ble_eq_true rfl) ?_
  rintro X G s0 vs ⟨rfl, hG, hS0, hi⟩ rfl hx hq
  show JJ X E 2 G s0 0 0 [(0, .int (zI x0)), (1, .int (zI x1))] 0 []
  refine j_iload_n hx 0 dJ0_checkIndex_df160_0 rfl ?_
  refine j_iload_n hx 1 dJ0_checkIndex_df160_1 rfl ?_
  refine j_getsF hx kf_RJ0_1053 dJ0_checkIndex_df160_2 (fun o => ?_)
  refine j_callS hx (c_J3_checkIndex hst x0 x1 o) ljk_1059 [.int (zI x0), .int (zI x1), va_rf o] ⟨rfl, hG, hS0, hi⟩ rfl rfl ⟨by decide, by decide⟩ ⟨by decide, by decide⟩ (k2 := 0) (n2 := 0) rfl rfl (Nat.le_of_ble_eq_true rfl) dJ0_checkIndex_df160_5 (kIP (fun v1 q1 => ?_))
  refine j_pop hx dJ0_checkIndex_df160_8 rfl ?_
  exact j_vret hx hq rfl (by decide) (by decide) dJ0_checkIndex_df160_9 ⟨rfl, rfl, rfl, trivial⟩
theorem ljk_9 : LkS RJ1 9 yJ0_checkIndex_df160 cJ0_checkIndex_df160 2 none 2 := ⟨km_RJ1_9, kst_yJ0_checkIndex_df160, kn_RJ0, kc_yJ0_checkIndex_df160, by decide +kernel, by decide +kernel, by decide +kernel⟩
theorem c_J1_charAt {E : zE} {l : Launch} (hst : l.stackTraces = false) (b1 : Nat) (x1 : Int) : Con E l yJ1_charAt_3b067 cJ1_charAt_3b067 2 (some .char) { frames := 3, cells := 0, slots := 0, locals := 120 } (fun G s vs => vs = [.ref (zTb E b1), .int (zI x1)] ∧ zGK G ∧ zSK G s ∧ b1 < txN ∧ (0 ≤ x1 ∧ x1 < tL b1)) (fun G s _ => pI (fun r G2 s2 => G2 = G ∧ s2 = s ∧ (97 ≤ r ∧ r ≤ 122) ∧ r = txC b1 x1.toNat)) := by
  refine Con.mk hst (by decide) (fun G s vs h => by rw [h.1]; exact Nat.le_of_ble_eq_true rfl) ?_
  rintro X G s0 vs ⟨rfl, hG, hS0, hi, hx1⟩ rfl hx hq
  show JJ X E 2 G s0 0 0 [(0, .ref (zTb E b1)), (1, .int (zI x1))] 0 []
  have hb := tL_b b1 hi
  refine j_iload_n hx 1 dJ1_charAt_3b067_0 rfl ?_
  refine j_aload_n hx 0 dJ1_charAt_3b067_1 rfl ?_
  refine j_alenT hx hi dJ1_charAt_3b067_2 ?_
  refine j_callS hx (c_J0_checkIndex hst x1 (tL b1)) ljk_9 [.int (zI x1), .int (zI (tL b1))] ⟨rfl, hG, hS0, by omega⟩ rfl rfl ⟨by decide, by decide⟩ ⟨by decide, by decide⟩ (k2 := 0) (n2 := 0) rfl rfl (Nat.le_of_ble_eq_true rfl) dJ1_charAt_3b067_3 (kVP (fun q1 => ?_))
  refine j_aload_n hx 0 dJ1_charAt_3b067_6 rfl ?_
  refine j_iload_n hx 1 dJ1_charAt_3b067_7 rfl ?_
  refine j_baldT hx hi hx1.1 hx1.2 dJ1_charAt_3b067_8 (fun v h1 h2 h3 => ?_)
  refine j_sipush hx dJ1_charAt_3b067_9 rfl ?_
  refine j_iand hx dJ1_charAt_3b067_12 (by omega) ⟨by decide, by decide⟩ (fun w g1 g2 g3 g4 g5 => ?_)
  rw [zand' (by omega) (by omega)] at g5
  subst g5
  refine j_i2c hx (by omega) (by omega) dJ1_charAt_3b067_13 ?_
  exact j_bret hx hq rfl (by decide) (by decide) dJ1_charAt_3b067_14 (zchar' (by omega) (by omega)) ⟨_, rfl, rfl, rfl, ⟨h1, h2⟩, h3⟩
theorem ljk_492 : LkV RJ0 492 RJ0 yJ0_isLatin1_aae02 cJ0_isLatin1_aae02 1 (some .boolean) 0 := ⟨km_RJ0_492, ki_yJ0_isLatin1_aae02, ks_RJ0_yJ0_isLatin1_aae02, kn_RJ0, kc_yJ0_isLatin1_aae02, rfl, by decide +kernel, by decide +kernel, by decide +kernel⟩
theorem ljk_495 : LkS RJ0 495 yJ1_charAt_3b067 cJ1_charAt_3b067 2 (some .char) 2 := ⟨km_RJ0_495, kst_yJ1_charAt_3b067, kn_RJ1, kc_yJ1_charAt_3b067, by decide +kernel, by decide +kernel, by decide +kernel⟩
theorem c_J0_charAt {E : zE} {l : Launch} (hst : l.stackTraces = false) (b1 : Nat) (x1 : Int) : Con E l yJ0_charAt_5068e cJ0_charAt_5068e 2 (some .char) { frames := 4, cells := 0, slots := 0, locals := 160 } (fun G s vs => vs = [.ref (zTa E b1), .int (zI x1)] ∧ zGK G ∧ zSK G s ∧ b1 < txN ∧ (0 ≤ x1 ∧ x1 ≤ 5) ∧ x1 < tL b1) (fun G s _ => pI (fun r G2 s2 => G2 = G ∧ s2 = s ∧ (97 ≤ r ∧ r ≤ 122) ∧ r = txC b1 x1.toNat)) := by
  refine Con.mk hst (by decide) (fun G s vs h => by rw [h.1]; exact Nat.le_of_ble_eq_true rfl) ?_
  rintro X G s0 vs ⟨rfl, hG, hS0, hi, hx1, hx2⟩ rfl hx hq
  show JJ X E 2 G s0 0 0 [(0, .ref (zTa E b1)), (1, .int (zI x1))] 0 []
  refine j_aload_n hx 0 dJ0_charAt_5068e_0 rfl ?_
  refine j_callVT hx (c_J0_isLatin1 hst b1) ljk_492 hi [] ⟨rfl, hG, hS0, hi⟩ rfl rfl ⟨by decide, by decide⟩ ⟨by decide, by decide⟩ (k2 := 0) (n2 := 0) rfl rfl (Nat.le_of_ble_eq_true rfl) dJ0_charAt_5068e_1 (kIP (fun v1 q1 => ?_))
  subst q1
  refine j_if_eq hx 16 dJ0_charAt_5068e_4 rfl ⟨by decide, by decide⟩ (fun h => absurd h (by decide)) (fun h => ?_)
  refine j_aload_n hx 0 dJ0_charAt_5068e_7 rfl ?_
  refine j_getTv hx hi kf_RJ0_9 dJ0_charAt_5068e_8 ?_
  refine j_iload_n hx 1 dJ0_charAt_5068e_11 rfl ?_
  refine j_callS hx (c_J1_charAt hst b1 x1) ljk_495 [.ref (zTb E b1), .int (zI x1)] ⟨rfl, hG, hS0, hi, hx1.1, hx2⟩ rfl rfl ⟨by decide, by decide⟩ ⟨by decide, by decide⟩ (k2 := 0) (n2 := 0) rfl rfl (Nat.le_of_ble_eq_true rfl) dJ0_charAt_5068e_12 (kIP (fun v2 q2 => ?_))
  exact j_bret hx hq rfl (by decide) (by decide) dJ0_charAt_5068e_15 (zchar' (by omega) (by omega)) ⟨_, rfl, rfl, rfl, q2⟩
theorem lk_of_157 : LkV RX12 157 RJ0 yJ0_length_8abf5 cJ0_length_8abf5 1 (some .int) 0 := ⟨km_RX12_157, ki_yJ0_length_8abf5, ks_RJ0_yJ0_length_8abf5, kn_RJ0, kc_yJ0_length_8abf5, rfl, by decide +kernel, by decide +kernel, by decide +kernel⟩
theorem lk_of_162 : LkV RX12 162 RJ0 yJ0_charAt_5068e cJ0_charAt_5068e 2 (some .char) 1 := ⟨km_RX12_162, ki_yJ0_charAt_5068e, ks_RJ0_yJ0_charAt_5068e, kn_RJ0, kc_yJ0_charAt_5068e, rfl, by decide +kernel, by decide +kernel, by decide +kernel⟩
set_option maxHeartbeats 4000000 in
theorem c_X12_of {E : zE} {l : Launch} (hst : l.stackTraces = false) (b0 : Nat) : Con E l yX12_of cX12_of 3 (some .int) { frames := 5, cells := 0, slots := 0, locals := 220 } (fun G s vs => vs = [.ref (zTa E b0)] ∧ zGK G ∧ zSK G s ∧ b0 < txN) (fun G s _ => pI (fun r G2 s2 => G2 = G ∧ s2 = s ∧ (-2147483648 ≤ r ∧ r ≤ 2147483647) ∧ r = tOf b0)) := by
  refine Con.mk hst (by decide) (fun G s vs h => by rw [h.1]; exact Nat.le_of_ble_eq_true rfl) ?_
  rintro X G s0 vs ⟨rfl, hG, hS0, hi⟩ rfl hx hq
  show JJ X E 3 G s0 0 0 [(0, .ref (zTa E b0))] 0 []
  have hb := tL_b b0 hi
  have key : ∀ (m : Nat) (v n : Int), 7 - n < m → (-2147483648 ≤ v ∧ v ≤ 2147483647) → 0 ≤ n → n ≤ tL b0 → v = tOfn b0 n.toNat → JJ X E 3 G s0 0 0 [(2, .int (zI n)), (1, .int (zI v)), (0, .ref (zTa E b0))] 4 [] := by
    intro m
    induction m with
    | zero => intro v n hm hv h0 hn he; exfalso; omega
    | succ m ih =>
      intro v n hm hv h0 hn he
      refine j_iload_n hx 0 dX12_of_4 rfl ?_
      refine j_aload_n hx 2 dX12_of_5 rfl ?_
      refine j_callVT hx (c_J0_length hst b0) lk_of_157 hi [] ⟨rfl, hG, hS0, hi⟩ rfl rfl ⟨by decide, by decide⟩ ⟨by decide, by decide⟩ (k2 := 0) (n2 := 0) rfl rfl (Nat.le_of_ble_eq_true rfl) dX12_of_6 (kIP (fun L1 q1 => ?_))
      refine j_icmp_ge hx 31 dX12_of_9 rfl (by omega) (by omega) (fun h => ?_) (fun h => ?_)
      · refine j_iload_n hx 1 dX12_of_31 rfl ?_
        have hn2 : n = tL b0 := by omega
        exact j_iret hx hq rfl (by decide) (by decide) dX12_of_32 ⟨v, rfl, rfl, rfl, hv, by rw [he, hn2]; rfl⟩
      · refine j_iload_n hx 1 dX12_of_12 rfl ?_
        refine j_iconst hx dX12_of_13 ?_
        refine j_ishlE hx dX12_of_14 (fun w w1 w2 w3 => ?_)
        refine j_aload_n hx 2 dX12_of_15 rfl ?_
        refine j_iload_n hx 0 dX12_of_16 rfl ?_
        refine j_callVT hx (c_J0_charAt hst b0 n) lk_of_162 hi [.int (zI n)] ⟨rfl, hG, hS0, hi, ⟨h0, by omega⟩, by omega⟩ rfl rfl ⟨by decide, by decide⟩ ⟨by decide, by decide⟩ (k2 := 0) (n2 := 0) rfl rfl (Nat.le_of_ble_eq_true rfl) dX12_of_17 (kIP (fun c q2 => ?_))
        refine j_bipush hx dX12_of_20 rfl ?_
        refine j_isub hx (r := c - 96) dX12_of_22 rfl ?_
        refine j_iorE hx dX12_of_23 (fun u u1 u2 u3 => ?_)
        refine j_istore_n hx [(1, .int (zI u)), (2, .int (zI n)), (0, .ref (zTa E b0))] dX12_of_24 (by decide) rfl ?_
        refine j_iinc hx 1 [(2, .int (zI (n + 1))), (1, .int (zI u)), (0, .ref (zTa E b0))] dX12_of_25 rfl rfl (by decide) rfl ?_
        refine j_goto hx 4 dX12_of_28 rfl ?_
        refine ih u (n + 1) (by omega) ⟨u1, u2⟩ (by omega) (by omega) (tOfn_s h0 (v := w) ?_ ?_)
        · rw [← he]; exact w3
        · rw [← q2.2]; exact u3
  refine j_iconst hx dX12_of_0 ?_
  refine j_istore_n hx [(1, .int (zI 0)), (0, .ref (zTa E b0))] dX12_of_1 (by decide) rfl ?_
  refine j_iconst hx dX12_of_2 ?_
  refine j_istore_n hx [(2, .int (zI 0)), (1, .int (zI 0)), (0, .ref (zTa E b0))] dX12_of_3 (by decide) rfl ?_
  exact key 8 0 0 (by omega) ⟨by decide, by decide⟩ (by omega) (by omega) rfl
