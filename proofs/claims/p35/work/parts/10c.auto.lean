theorem lk_RX12_204 : LkV RX12 204 RX12 yX12_forgets cX12_forgets 2 none 0 := ⟨km_RX12_204, ki_yX12_forgets, ks_RX12_yX12_forgets, kn_RX12, kc_yX12_forgets, rfl, by decide +kernel, by decide +kernel, by decide +kernel⟩
theorem lk_RX12_207 : LkV RX12 207 RX12 yX12_stays cX12_stays 2 none 0 := ⟨km_RX12_207, ki_yX12_stays, ks_RX12_yX12_stays, kn_RX12, kc_yX12_stays, rfl, by decide +kernel, by decide +kernel, by decide +kernel⟩
set_option maxHeartbeats 4000000 in
set_option maxRecDepth 20000 in
theorem c_X12_sets {E : zE} {l : Launch} (hst : l.stackTraces = false) (a : Nat) : Con E l yX12_sets cX12_sets 4 none { frames := 1, cells := 0, slots := 0, locals := 21 } (fun G s vs => vs = [.ref a] ∧ zGK G ∧ zSK G s ∧ (gT G a = 13) ∧ (s (gP G a 13) 0 + s (gP G a 13) 1 + s (gP G a 13) 2 ≤ 60) ∧ (zQn (s (gP G a 10)) (s a 21))) (fun G s _ => pV (fun G2 s2 => G2 = G ∧ zSK G s2 ∧ zFr [13, 80, 81, 82, 83, 84, 85, 87, 91, 94] G s s2 ∧ zc (s2 (gP G a 27)) ≤ 60 ∧ s2 (gP G a 27) 488 = 0 ∧ zc (s2 (gP G a 28)) ≤ 60 ∧ s2 (gP G a 28) 488 = 0 ∧ zQn (s2 (gP G a 17)) (s2 a 24) ∧ zRva (s2 (gP G a 34)) (s2 (gP G a 35)) (s2 (gP G a 37)) ∧ s2 a 0 = s a 0 ∧ s2 a 3 = s a 3 ∧ s2 a 4 = s a 4 ∧ s2 a 5 = s a 5 ∧ s2 a 7 = s a 7 ∧ s2 a 21 = s a 21 ∧ s2 a 22 = s a 22 ∧ s2 a 23 = s a 23 ∧ s2 a 38 = s a 38 ∧ s2 a 51 = s a 51 ∧ s2 a 52 = s a 52)) := by
  refine Con.mk hst (by decide) (fun G s vs h => by rw [h.1]; exact Nat.le_of_ble_eq_true rfl) ?_
  rintro X G s0 vs ⟨rfl, hG, hS0, ha, e0, e1⟩ rfl hx hq
  show JJ X E 4 G s0 0 0 [(0, .ref a)] 0 []
  have x102_153 : ∀ (v92 : Int) (s154 : zS), (0 ≤ v92 ∧ v92 ≤ 60) → (zSK G s154) → (zFr [13, 80, 81, 82, 83, 84, 85, 87, 91, 94] G s0 s154) → (s154 a 0 = s0 a 0) → (s154 a 3 = s0 a 3) → (s154 a 4 = s0 a 4) → (s154 a 5 = s0 a 5) → (s154 a 7 = s0 a 7) → (s154 a 21 = s0 a 21) → (s154 a 22 = s0 a 22) → (s154 a 23 = s0 a 23) → (s154 a 38 = s0 a 38) → (s154 a 51 = s0 a 51) → (s154 a 52 = s0 a 52) → (zQn (s154 (gP G a 17)) (s154 a 24)) → (zc (s154 (gP G a 27)) ≤ v92) → (s154 a 24 = s0 a 21) → (v92 ≤ s0 (gP G a 13) 0 + s0 (gP G a 13) 1 + s0 (gP G a 13) 2 ∧ s154 (gP G a 27) 488 = 0) → JJ X E 4 G s154 0 0 [(0, .ref a), (1, .int (zI v92)), (2, .int (zI 3))] 102 [] := by
    intro v92 s154 fA155 hS_s154 hF_s154 fA158 fA159 fA160 fA161 fA162 fA163 fA164 fA165 fA166 fA167 fA168 fA169 fA170 fA171 fA172
    have f93 := zaI (j := 0) hS0 (zr (k := 13) (t2 := 76) hG ha rfl) rfl (zlen hG (zr (k := 13) (t2 := 76) hG ha rfl) (n := 3) rfl rfl) (show (0 : Int) ≤ 0 by decide) (by decide) rfl
    have f94 := zaI (j := 1) hS0 (zr (k := 13) (t2 := 76) hG ha rfl) rfl (zlen hG (zr (k := 13) (t2 := 76) hG ha rfl) (n := 3) rfl rfl) (show (0 : Int) ≤ 1 by decide) (by decide) rfl
    have f95 := zaI (j := 2) hS0 (zr (k := 13) (t2 := 76) hG ha rfl) rfl (zlen hG (zr (k := 13) (t2 := 76) hG ha rfl) (n := 3) rfl rfl) (show (0 : Int) ≤ 2 by decide) (by decide) rfl
    refine j_iload_n hx 2 dX12_sets_102 rfl ?_
    refine j_iconst hx dX12_sets_103 ?_
    refine j_icmp_ge hx 250 dX12_sets_104 rfl ⟨by decide, by decide⟩ ⟨by decide, by decide⟩ (fun h96 => ?_) (fun h96 => absurd h96 (by omega))
    refine j_aload_n hx 0 dX12_sets_250 rfl ?_
    refine g13_27 hx hG ha kf_RX12_56 dX12_sets_251 ?_
    refine j_sipush hx dX12_sets_254 rfl ?_
    refine j_aload_n hx 0 dX12_sets_257 rfl ?_
    have f97 := zf hS_s154 ha (k := 24) rfl
    refine g13_24 hx hG ha kf_RX12_189 rfl dX12_sets_258 ?_
    refine j_iconst hx dX12_sets_261 ?_
    refine j_isub hx (r := (s154 a 24) - 1) dX12_sets_262 (by omega) ?_
    refine j_iast hx hG (zr (k := 27) (t2 := 84) hG ha rfl) (by decide) rfl (zlen hG (zr (k := 27) (t2 := 84) hG ha rfl) (n := 515) rfl rfl) (by omega) (by omega) (j := 487) rfl dX12_sets_263 ?_
    obtain ⟨s173, e_s173⟩ : ∃ z, z = zU s154 (gP G a 27) 487 ((s154 a 24) - 1) := ⟨_, rfl⟩
    rw [← e_s173]
    have hS_s173 : zSK G s173 := by rw [e_s173]; exact zSK_a hS_s154 (zr (k := 27) (t2 := 84) hG ha rfl) rfl rfl (congrArg some (axS_3 487 (by omega))) (by omega)
    have z98 : zc (s173 (gP G a 27)) = zc (s154 (gP G a 27)) := by rw [e_s173]; exact zc_o (by omega)
    refine j_iconst hx dX12_sets_264 ?_
    refine j_istore_n hx [(2, .int (zI 0)), (0, .ref a), (1, .int (zI v92))] dX12_sets_265 (by decide) rfl ?_
    refine j_iload_n hx 0 dX12_sets_266 rfl ?_
    refine j_bipush hx dX12_sets_267 rfl ?_
    refine j_icmp_ge hx 294 dX12_sets_269 rfl ⟨by decide, by decide⟩ ⟨by decide, by decide⟩ (fun h99 => absurd h99 (by omega)) (fun h99 => ?_)
    refine j_aload_n hx 1 dX12_sets_272 rfl ?_
    refine g13_37 hx hG ha kf_RX12_86 dX12_sets_273 ?_
    refine j_iload_n hx 0 dX12_sets_276 rfl ?_
    refine j_iload_n hx 0 dX12_sets_277 rfl ?_
    refine j_iconst hx dX12_sets_278 ?_
    refine j_icmp_ge hx 286 dX12_sets_279 rfl ⟨by decide, by decide⟩ ⟨by decide, by decide⟩ (fun h100 => absurd h100 (by omega)) (fun h100 => ?_)
    refine j_iconst hx dX12_sets_282 ?_
    refine j_goto hx 287 dX12_sets_283 rfl ?_
    refine j_iast hx hG (zr (k := 37) (t2 := 94) hG ha rfl) (by decide) rfl (zlen hG (zr (k := 37) (t2 := 94) hG ha rfl) (n := 6) rfl rfl) (by omega) (by omega) (j := 0) rfl dX12_sets_287 ?_
    obtain ⟨s174, e_s174⟩ : ∃ z, z = zU s173 (gP G a 37) 0 1 := ⟨_, rfl⟩
    rw [← e_s174]
    have hS_s174 : zSK G s174 := by rw [e_s174]; exact zSK_A hS_s173 (zr (k := 37) (t2 := 94) hG ha rfl) rfl rfl rfl (by omega)
    refine j_iinc hx 0 [(2, .int (zI 1)), (0, .ref a), (1, .int (zI v92))] dX12_sets_288 rfl (by omega) (by decide) rfl ?_
    refine j_goto hx 266 dX12_sets_291 rfl ?_
    refine j_iload_n hx 0 dX12_sets_266 rfl ?_
    refine j_bipush hx dX12_sets_267 rfl ?_
    refine j_icmp_ge hx 294 dX12_sets_269 rfl ⟨by decide, by decide⟩ ⟨by decide, by decide⟩ (fun h101 => absurd h101 (by omega)) (fun h101 => ?_)
    refine j_aload_n hx 1 dX12_sets_272 rfl ?_
    refine g13_37 hx hG ha kf_RX12_86 dX12_sets_273 ?_
    refine j_iload_n hx 0 dX12_sets_276 rfl ?_
    refine j_iload_n hx 0 dX12_sets_277 rfl ?_
    refine j_iconst hx dX12_sets_278 ?_
    refine j_icmp_ge hx 286 dX12_sets_279 rfl ⟨by decide, by decide⟩ ⟨by decide, by decide⟩ (fun h102 => absurd h102 (by omega)) (fun h102 => ?_)
    refine j_iconst hx dX12_sets_282 ?_
    refine j_goto hx 287 dX12_sets_283 rfl ?_
    refine j_iast hx hG (zr (k := 37) (t2 := 94) hG ha rfl) (by decide) rfl (zlen hG (zr (k := 37) (t2 := 94) hG ha rfl) (n := 6) rfl rfl) (by omega) (by omega) (j := 1) rfl dX12_sets_287 ?_
    obtain ⟨s175, e_s175⟩ : ∃ z, z = zU s174 (gP G a 37) 1 1 := ⟨_, rfl⟩
    rw [← e_s175]
    have hS_s175 : zSK G s175 := by rw [e_s175]; exact zSK_A hS_s174 (zr (k := 37) (t2 := 94) hG ha rfl) rfl rfl rfl (by omega)
    refine j_iinc hx 0 [(2, .int (zI 2)), (0, .ref a), (1, .int (zI v92))] dX12_sets_288 rfl (by omega) (by decide) rfl ?_
    refine j_goto hx 266 dX12_sets_291 rfl ?_
    refine j_iload_n hx 0 dX12_sets_266 rfl ?_
    refine j_bipush hx dX12_sets_267 rfl ?_
    refine j_icmp_ge hx 294 dX12_sets_269 rfl ⟨by decide, by decide⟩ ⟨by decide, by decide⟩ (fun h103 => absurd h103 (by omega)) (fun h103 => ?_)
    refine j_aload_n hx 1 dX12_sets_272 rfl ?_
    refine g13_37 hx hG ha kf_RX12_86 dX12_sets_273 ?_
    refine j_iload_n hx 0 dX12_sets_276 rfl ?_
    refine j_iload_n hx 0 dX12_sets_277 rfl ?_
    refine j_iconst hx dX12_sets_278 ?_
    refine j_icmp_ge hx 286 dX12_sets_279 rfl ⟨by decide, by decide⟩ ⟨by decide, by decide⟩ (fun h104 => absurd h104 (by omega)) (fun h104 => ?_)
    refine j_iconst hx dX12_sets_282 ?_
    refine j_goto hx 287 dX12_sets_283 rfl ?_
    refine j_iast hx hG (zr (k := 37) (t2 := 94) hG ha rfl) (by decide) rfl (zlen hG (zr (k := 37) (t2 := 94) hG ha rfl) (n := 6) rfl rfl) (by omega) (by omega) (j := 2) rfl dX12_sets_287 ?_
    obtain ⟨s176, e_s176⟩ : ∃ z, z = zU s175 (gP G a 37) 2 1 := ⟨_, rfl⟩
    rw [← e_s176]
    have hS_s176 : zSK G s176 := by rw [e_s176]; exact zSK_A hS_s175 (zr (k := 37) (t2 := 94) hG ha rfl) rfl rfl rfl (by omega)
    refine j_iinc hx 0 [(2, .int (zI 3)), (0, .ref a), (1, .int (zI v92))] dX12_sets_288 rfl (by omega) (by decide) rfl ?_
    refine j_goto hx 266 dX12_sets_291 rfl ?_
    refine j_iload_n hx 0 dX12_sets_266 rfl ?_
    refine j_bipush hx dX12_sets_267 rfl ?_
    refine j_icmp_ge hx 294 dX12_sets_269 rfl ⟨by decide, by decide⟩ ⟨by decide, by decide⟩ (fun h105 => absurd h105 (by omega)) (fun h105 => ?_)
    refine j_aload_n hx 1 dX12_sets_272 rfl ?_
    refine g13_37 hx hG ha kf_RX12_86 dX12_sets_273 ?_
    refine j_iload_n hx 0 dX12_sets_276 rfl ?_
    refine j_iload_n hx 0 dX12_sets_277 rfl ?_
    refine j_iconst hx dX12_sets_278 ?_
    refine j_icmp_ge hx 286 dX12_sets_279 rfl ⟨by decide, by decide⟩ ⟨by decide, by decide⟩ (fun h106 => ?_) (fun h106 => absurd h106 (by omega))
    refine j_iconst hx dX12_sets_286 ?_
    refine j_iast hx hG (zr (k := 37) (t2 := 94) hG ha rfl) (by decide) rfl (zlen hG (zr (k := 37) (t2 := 94) hG ha rfl) (n := 6) rfl rfl) (by omega) (by omega) (j := 3) rfl dX12_sets_287 ?_
    obtain ⟨s177, e_s177⟩ : ∃ z, z = zU s176 (gP G a 37) 3 0 := ⟨_, rfl⟩
    rw [← e_s177]
    have hS_s177 : zSK G s177 := by rw [e_s177]; exact zSK_A hS_s176 (zr (k := 37) (t2 := 94) hG ha rfl) rfl rfl rfl (by omega)
    refine j_iinc hx 0 [(2, .int (zI 4)), (0, .ref a), (1, .int (zI v92))] dX12_sets_288 rfl (by omega) (by decide) rfl ?_
    refine j_goto hx 266 dX12_sets_291 rfl ?_
    refine j_iload_n hx 0 dX12_sets_266 rfl ?_
    refine j_bipush hx dX12_sets_267 rfl ?_
    refine j_icmp_ge hx 294 dX12_sets_269 rfl ⟨by decide, by decide⟩ ⟨by decide, by decide⟩ (fun h107 => absurd h107 (by omega)) (fun h107 => ?_)
    refine j_aload_n hx 1 dX12_sets_272 rfl ?_
    refine g13_37 hx hG ha kf_RX12_86 dX12_sets_273 ?_
    refine j_iload_n hx 0 dX12_sets_276 rfl ?_
    refine j_iload_n hx 0 dX12_sets_277 rfl ?_
    refine j_iconst hx dX12_sets_278 ?_
    refine j_icmp_ge hx 286 dX12_sets_279 rfl ⟨by decide, by decide⟩ ⟨by decide, by decide⟩ (fun h108 => ?_) (fun h108 => absurd h108 (by omega))
    refine j_iconst hx dX12_sets_286 ?_
    refine j_iast hx hG (zr (k := 37) (t2 := 94) hG ha rfl) (by decide) rfl (zlen hG (zr (k := 37) (t2 := 94) hG ha rfl) (n := 6) rfl rfl) (by omega) (by omega) (j := 4) rfl dX12_sets_287 ?_
    obtain ⟨s178, e_s178⟩ : ∃ z, z = zU s177 (gP G a 37) 4 0 := ⟨_, rfl⟩
    rw [← e_s178]
    have hS_s178 : zSK G s178 := by rw [e_s178]; exact zSK_A hS_s177 (zr (k := 37) (t2 := 94) hG ha rfl) rfl rfl rfl (by omega)
    refine j_iinc hx 0 [(2, .int (zI 5)), (0, .ref a), (1, .int (zI v92))] dX12_sets_288 rfl (by omega) (by decide) rfl ?_
    refine j_goto hx 266 dX12_sets_291 rfl ?_
    refine j_iload_n hx 0 dX12_sets_266 rfl ?_
    refine j_bipush hx dX12_sets_267 rfl ?_
    refine j_icmp_ge hx 294 dX12_sets_269 rfl ⟨by decide, by decide⟩ ⟨by decide, by decide⟩ (fun h109 => absurd h109 (by omega)) (fun h109 => ?_)
    refine j_aload_n hx 1 dX12_sets_272 rfl ?_
    refine g13_37 hx hG ha kf_RX12_86 dX12_sets_273 ?_
    refine j_iload_n hx 0 dX12_sets_276 rfl ?_
    refine j_iload_n hx 0 dX12_sets_277 rfl ?_
    refine j_iconst hx dX12_sets_278 ?_
    refine j_icmp_ge hx 286 dX12_sets_279 rfl ⟨by decide, by decide⟩ ⟨by decide, by decide⟩ (fun h110 => ?_) (fun h110 => absurd h110 (by omega))
    refine j_iconst hx dX12_sets_286 ?_
    refine j_iast hx hG (zr (k := 37) (t2 := 94) hG ha rfl) (by decide) rfl (zlen hG (zr (k := 37) (t2 := 94) hG ha rfl) (n := 6) rfl rfl) (by omega) (by omega) (j := 5) rfl dX12_sets_287 ?_
    obtain ⟨s179, e_s179⟩ : ∃ z, z = zU s178 (gP G a 37) 5 0 := ⟨_, rfl⟩
    rw [← e_s179]
    have hS_s179 : zSK G s179 := by rw [e_s179]; exact zSK_A hS_s178 (zr (k := 37) (t2 := 94) hG ha rfl) rfl rfl rfl (by omega)
    refine j_iinc hx 0 [(2, .int (zI 6)), (0, .ref a), (1, .int (zI v92))] dX12_sets_288 rfl (by omega) (by decide) rfl ?_
    refine j_goto hx 266 dX12_sets_291 rfl ?_
    refine j_iload_n hx 0 dX12_sets_266 rfl ?_
    refine j_bipush hx dX12_sets_267 rfl ?_
    refine j_icmp_ge hx 294 dX12_sets_269 rfl ⟨by decide, by decide⟩ ⟨by decide, by decide⟩ (fun h111 => ?_) (fun h111 => absurd h111 (by omega))
    refine j_iconst hx dX12_sets_294 ?_
    refine j_istore_n hx [(2, .int (zI 0)), (0, .ref a), (1, .int (zI v92))] dX12_sets_295 (by decide) rfl ?_
    refine j_iload_n hx 0 dX12_sets_296 rfl ?_
    refine j_iconst hx dX12_sets_297 ?_
    refine j_icmp_ge hx 318 dX12_sets_298 rfl ⟨by decide, by decide⟩ ⟨by decide, by decide⟩ (fun h112 => absurd h112 (by omega)) (fun h112 => ?_)
    refine j_aload_n hx 1 dX12_sets_301 rfl ?_
    refine g13_34 hx hG ha kf_RX12_77 dX12_sets_302 ?_
    refine j_sipush hx dX12_sets_305 rfl ?_
    refine j_iload_n hx 0 dX12_sets_308 rfl ?_
    refine j_imul hx (r := 0) dX12_sets_309 (by omega) ?_
    refine j_iconst hx dX12_sets_310 ?_
    refine j_iast hx hG (zr (k := 34) (t2 := 91) hG ha rfl) (by decide) rfl (zlen hG (zr (k := 34) (t2 := 91) hG ha rfl) (n := 900) rfl rfl) (by omega) (by omega) (j := 0) rfl dX12_sets_311 ?_
    obtain ⟨s180, e_s180⟩ : ∃ z, z = zU s179 (gP G a 34) 0 1 := ⟨_, rfl⟩
    rw [← e_s180]
    have hS_s180 : zSK G s180 := by rw [e_s180]; exact zSK_A hS_s179 (zr (k := 34) (t2 := 91) hG ha rfl) rfl rfl rfl (by omega)
    refine j_iinc hx 0 [(2, .int (zI 1)), (0, .ref a), (1, .int (zI v92))] dX12_sets_312 rfl (by omega) (by decide) rfl ?_
    refine j_goto hx 296 dX12_sets_315 rfl ?_
    refine j_iload_n hx 0 dX12_sets_296 rfl ?_
    refine j_iconst hx dX12_sets_297 ?_
    refine j_icmp_ge hx 318 dX12_sets_298 rfl ⟨by decide, by decide⟩ ⟨by decide, by decide⟩ (fun h113 => absurd h113 (by omega)) (fun h113 => ?_)
    refine j_aload_n hx 1 dX12_sets_301 rfl ?_
    refine g13_34 hx hG ha kf_RX12_77 dX12_sets_302 ?_
    refine j_sipush hx dX12_sets_305 rfl ?_
    refine j_iload_n hx 0 dX12_sets_308 rfl ?_
    refine j_imul hx (r := 150) dX12_sets_309 (by omega) ?_
    refine j_iconst hx dX12_sets_310 ?_
    refine j_iast hx hG (zr (k := 34) (t2 := 91) hG ha rfl) (by decide) rfl (zlen hG (zr (k := 34) (t2 := 91) hG ha rfl) (n := 900) rfl rfl) (by omega) (by omega) (j := 150) rfl dX12_sets_311 ?_
    obtain ⟨s181, e_s181⟩ : ∃ z, z = zU s180 (gP G a 34) 150 1 := ⟨_, rfl⟩
    rw [← e_s181]
    have hS_s181 : zSK G s181 := by rw [e_s181]; exact zSK_A hS_s180 (zr (k := 34) (t2 := 91) hG ha rfl) rfl rfl rfl (by omega)
    refine j_iinc hx 0 [(2, .int (zI 2)), (0, .ref a), (1, .int (zI v92))] dX12_sets_312 rfl (by omega) (by decide) rfl ?_
    refine j_goto hx 296 dX12_sets_315 rfl ?_
    refine j_iload_n hx 0 dX12_sets_296 rfl ?_
    refine j_iconst hx dX12_sets_297 ?_
    refine j_icmp_ge hx 318 dX12_sets_298 rfl ⟨by decide, by decide⟩ ⟨by decide, by decide⟩ (fun h114 => absurd h114 (by omega)) (fun h114 => ?_)
    refine j_aload_n hx 1 dX12_sets_301 rfl ?_
    refine g13_34 hx hG ha kf_RX12_77 dX12_sets_302 ?_
    refine j_sipush hx dX12_sets_305 rfl ?_
    refine j_iload_n hx 0 dX12_sets_308 rfl ?_
    refine j_imul hx (r := 300) dX12_sets_309 (by omega) ?_
    refine j_iconst hx dX12_sets_310 ?_
    refine j_iast hx hG (zr (k := 34) (t2 := 91) hG ha rfl) (by decide) rfl (zlen hG (zr (k := 34) (t2 := 91) hG ha rfl) (n := 900) rfl rfl) (by omega) (by omega) (j := 300) rfl dX12_sets_311 ?_
    obtain ⟨s182, e_s182⟩ : ∃ z, z = zU s181 (gP G a 34) 300 1 := ⟨_, rfl⟩
    rw [← e_s182]
    have hS_s182 : zSK G s182 := by rw [e_s182]; exact zSK_A hS_s181 (zr (k := 34) (t2 := 91) hG ha rfl) rfl rfl rfl (by omega)
    refine j_iinc hx 0 [(2, .int (zI 3)), (0, .ref a), (1, .int (zI v92))] dX12_sets_312 rfl (by omega) (by decide) rfl ?_
    refine j_goto hx 296 dX12_sets_315 rfl ?_
    refine j_iload_n hx 0 dX12_sets_296 rfl ?_
    refine j_iconst hx dX12_sets_297 ?_
    refine j_icmp_ge hx 318 dX12_sets_298 rfl ⟨by decide, by decide⟩ ⟨by decide, by decide⟩ (fun h115 => ?_) (fun h115 => absurd h115 (by omega))
    have g116 : s182 (gP G a 34) 0 = 1 := (by rw [e_s182, zU_at (Or.inr (by decide)), e_s181, zU_at (Or.inr (by decide)), e_s180, zU_eq])
    have g117 : s182 (gP G a 34) 150 = 1 := (by rw [e_s182, zU_at (Or.inr (by decide)), e_s181, zU_eq])
    have g118 : s182 (gP G a 34) 300 = 1 := (by rw [e_s182, zU_eq])
    have g119 : s182 (gP G a 37) 0 = 1 := (by rw [e_s182, zU_at (Or.inl (zne (zr (k := 34) (t2 := 91) hG ha rfl) (zr (k := 37) (t2 := 94) hG ha rfl) (by decide))), e_s181, zU_at (Or.inl (zne (zr (k := 34) (t2 := 91) hG ha rfl) (zr (k := 37) (t2 := 94) hG ha rfl) (by decide))), e_s180, zU_at (Or.inl (zne (zr (k := 34) (t2 := 91) hG ha rfl) (zr (k := 37) (t2 := 94) hG ha rfl) (by decide))), e_s179, zU_at (Or.inr (by decide)), e_s178, zU_at (Or.inr (by decide)), e_s177, zU_at (Or.inr (by decide)), e_s176, zU_at (Or.inr (by decide)), e_s175, zU_at (Or.inr (by decide)), e_s174, zU_eq])
    have g120 : s182 (gP G a 37) 1 = 1 := (by rw [e_s182, zU_at (Or.inl (zne (zr (k := 34) (t2 := 91) hG ha rfl) (zr (k := 37) (t2 := 94) hG ha rfl) (by decide))), e_s181, zU_at (Or.inl (zne (zr (k := 34) (t2 := 91) hG ha rfl) (zr (k := 37) (t2 := 94) hG ha rfl) (by decide))), e_s180, zU_at (Or.inl (zne (zr (k := 34) (t2 := 91) hG ha rfl) (zr (k := 37) (t2 := 94) hG ha rfl) (by decide))), e_s179, zU_at (Or.inr (by decide)), e_s178, zU_at (Or.inr (by decide)), e_s177, zU_at (Or.inr (by decide)), e_s176, zU_at (Or.inr (by decide)), e_s175, zU_eq])
    have g121 : s182 (gP G a 37) 2 = 1 := (by rw [e_s182, zU_at (Or.inl (zne (zr (k := 34) (t2 := 91) hG ha rfl) (zr (k := 37) (t2 := 94) hG ha rfl) (by decide))), e_s181, zU_at (Or.inl (zne (zr (k := 34) (t2 := 91) hG ha rfl) (zr (k := 37) (t2 := 94) hG ha rfl) (by decide))), e_s180, zU_at (Or.inl (zne (zr (k := 34) (t2 := 91) hG ha rfl) (zr (k := 37) (t2 := 94) hG ha rfl) (by decide))), e_s179, zU_at (Or.inr (by decide)), e_s178, zU_at (Or.inr (by decide)), e_s177, zU_at (Or.inr (by decide)), e_s176, zU_eq])
    have g122 : s182 (gP G a 37) 3 = 0 := (by rw [e_s182, zU_at (Or.inl (zne (zr (k := 34) (t2 := 91) hG ha rfl) (zr (k := 37) (t2 := 94) hG ha rfl) (by decide))), e_s181, zU_at (Or.inl (zne (zr (k := 34) (t2 := 91) hG ha rfl) (zr (k := 37) (t2 := 94) hG ha rfl) (by decide))), e_s180, zU_at (Or.inl (zne (zr (k := 34) (t2 := 91) hG ha rfl) (zr (k := 37) (t2 := 94) hG ha rfl) (by decide))), e_s179, zU_at (Or.inr (by decide)), e_s178, zU_at (Or.inr (by decide)), e_s177, zU_eq])
    have g123 : s182 (gP G a 37) 4 = 0 := (by rw [e_s182, zU_at (Or.inl (zne (zr (k := 34) (t2 := 91) hG ha rfl) (zr (k := 37) (t2 := 94) hG ha rfl) (by decide))), e_s181, zU_at (Or.inl (zne (zr (k := 34) (t2 := 91) hG ha rfl) (zr (k := 37) (t2 := 94) hG ha rfl) (by decide))), e_s180, zU_at (Or.inl (zne (zr (k := 34) (t2 := 91) hG ha rfl) (zr (k := 37) (t2 := 94) hG ha rfl) (by decide))), e_s179, zU_at (Or.inr (by decide)), e_s178, zU_eq])
    have g124 : s182 (gP G a 37) 5 = 0 := (by rw [e_s182, zU_at (Or.inl (zne (zr (k := 34) (t2 := 91) hG ha rfl) (zr (k := 37) (t2 := 94) hG ha rfl) (by decide))), e_s181, zU_at (Or.inl (zne (zr (k := 34) (t2 := 91) hG ha rfl) (zr (k := 37) (t2 := 94) hG ha rfl) (by decide))), e_s180, zU_at (Or.inl (zne (zr (k := 34) (t2 := 91) hG ha rfl) (zr (k := 37) (t2 := 94) hG ha rfl) (by decide))), e_s179, zU_eq])
    have hP125 : zRva (s182 (gP G a 34)) (s182 (gP G a 35)) (s182 (gP G a 37)) := zRva_st (by omega) (by omega) (by omega) (by omega) (by omega) (by omega) (by omega) (by omega) (by omega)
    refine j_aload_n hx 1 dX12_sets_318 rfl ?_
    refine j_iconst hx dX12_sets_319 ?_
    refine p13_41 hx hG ha kf_RX12_198 dX12_sets_320 ?_
    obtain ⟨s183, e_s183⟩ : ∃ z, z = zU s182 a 41 0 := ⟨_, rfl⟩
    rw [← e_s183]
    have hS_s183 : zSK G s183 := by rw [e_s183]; exact zSK_F hS_s182 ha rfl rfl rfl (by omega)
    refine j_aload_n hx 1 dX12_sets_323 rfl ?_
    refine j_iconst hx dX12_sets_324 ?_
    refine p13_58 hx hG ha kf_RX12_201 dX12_sets_325 ?_
    obtain ⟨s184, e_s184⟩ : ∃ z, z = zU s183 a 58 0 := ⟨_, rfl⟩
    rw [← e_s184]
    have hS_s184 : zSK G s184 := by rw [e_s184]; exact zSK_F hS_s183 ha rfl rfl rfl (by omega)
    refine j_aload_n hx 1 dX12_sets_328 rfl ?_
    refine j_callV hx hG (c_X12_forgets hst a) lk_RX12_204 ha (by decide) rfl rfl rfl rfl [] ⟨rfl, hG, hS_s184, ha⟩ rfl rfl ⟨by decide, by decide⟩ ⟨by decide, by decide⟩ (k2 := 0) (n2 := 0) rfl rfl (Nat.le_of_ble_eq_true rfl) dX12_sets_329 (kVM (fun s185 hS_s185 hF_s185 q127 => ?_))
    refine j_aload_n hx 1 dX12_sets_332 rfl ?_
    have g128 : zc (s185 (gP G a 27)) = zc (s173 (gP G a 27)) := by rw [hF_s185 (gP G a 27) (by rw [(zr (k := 27) (t2 := 84) hG ha rfl)]; decide), e_s184, zU_ne (zne ha (zr (k := 27) (t2 := 84) hG ha rfl) (by decide)), e_s183, zU_ne (zne ha (zr (k := 27) (t2 := 84) hG ha rfl) (by decide)), e_s182, zU_ne (zne (zr (k := 34) (t2 := 91) hG ha rfl) (zr (k := 27) (t2 := 84) hG ha rfl) (by decide)), e_s181, zU_ne (zne (zr (k := 34) (t2 := 91) hG ha rfl) (zr (k := 27) (t2 := 84) hG ha rfl) (by decide)), e_s180, zU_ne (zne (zr (k := 34) (t2 := 91) hG ha rfl) (zr (k := 27) (t2 := 84) hG ha rfl) (by decide)), e_s179, zU_ne (zne (zr (k := 37) (t2 := 94) hG ha rfl) (zr (k := 27) (t2 := 84) hG ha rfl) (by decide)), e_s178, zU_ne (zne (zr (k := 37) (t2 := 94) hG ha rfl) (zr (k := 27) (t2 := 84) hG ha rfl) (by decide)), e_s177, zU_ne (zne (zr (k := 37) (t2 := 94) hG ha rfl) (zr (k := 27) (t2 := 84) hG ha rfl) (by decide)), e_s176, zU_ne (zne (zr (k := 37) (t2 := 94) hG ha rfl) (zr (k := 27) (t2 := 84) hG ha rfl) (by decide)), e_s175, zU_ne (zne (zr (k := 37) (t2 := 94) hG ha rfl) (zr (k := 27) (t2 := 84) hG ha rfl) (by decide)), e_s174, zU_ne (zne (zr (k := 37) (t2 := 94) hG ha rfl) (zr (k := 27) (t2 := 84) hG ha rfl) (by decide))]
    have g129 : s185 (gP G a 27) 488 = s154 (gP G a 27) 488 := (by rw [(zFr_g hF_s185 (zr (k := 27) (t2 := 84) hG ha rfl) (by decide)), e_s184, zU_at (Or.inl (zne ha (zr (k := 27) (t2 := 84) hG ha rfl) (by decide))), e_s183, zU_at (Or.inl (zne ha (zr (k := 27) (t2 := 84) hG ha rfl) (by decide))), e_s182, zU_at (Or.inl (zne (zr (k := 34) (t2 := 91) hG ha rfl) (zr (k := 27) (t2 := 84) hG ha rfl) (by decide))), e_s181, zU_at (Or.inl (zne (zr (k := 34) (t2 := 91) hG ha rfl) (zr (k := 27) (t2 := 84) hG ha rfl) (by decide))), e_s180, zU_at (Or.inl (zne (zr (k := 34) (t2 := 91) hG ha rfl) (zr (k := 27) (t2 := 84) hG ha rfl) (by decide))), e_s179, zU_at (Or.inl (zne (zr (k := 37) (t2 := 94) hG ha rfl) (zr (k := 27) (t2 := 84) hG ha rfl) (by decide))), e_s178, zU_at (Or.inl (zne (zr (k := 37) (t2 := 94) hG ha rfl) (zr (k := 27) (t2 := 84) hG ha rfl) (by decide))), e_s177, zU_at (Or.inl (zne (zr (k := 37) (t2 := 94) hG ha rfl) (zr (k := 27) (t2 := 84) hG ha rfl) (by decide))), e_s176, zU_at (Or.inl (zne (zr (k := 37) (t2 := 94) hG ha rfl) (zr (k := 27) (t2 := 84) hG ha rfl) (by decide))), e_s175, zU_at (Or.inl (zne (zr (k := 37) (t2 := 94) hG ha rfl) (zr (k := 27) (t2 := 84) hG ha rfl) (by decide))), e_s174, zU_at (Or.inl (zne (zr (k := 37) (t2 := 94) hG ha rfl) (zr (k := 27) (t2 := 84) hG ha rfl) (by decide))), e_s173, zU_at (Or.inr (by decide))])
    refine j_callV hx hG (c_X12_stays hst a) lk_RX12_207 ha (by decide) rfl rfl rfl rfl [] ⟨rfl, hG, hS_s185, ha⟩ rfl rfl ⟨by decide, by decide⟩ ⟨by decide, by decide⟩ (k2 := 0) (n2 := 0) rfl rfl (Nat.le_of_ble_eq_true rfl) dX12_sets_333 (kVM (fun s186 hS_s186 hF_s186 q131 => ?_))
    have g132 : zc (s186 (gP G a 27)) = zc (s173 (gP G a 27)) := by rw [hF_s186 (gP G a 27) (by rw [(zr (k := 27) (t2 := 84) hG ha rfl)]; decide), hF_s185 (gP G a 27) (by rw [(zr (k := 27) (t2 := 84) hG ha rfl)]; decide), e_s184, zU_ne (zne ha (zr (k := 27) (t2 := 84) hG ha rfl) (by decide)), e_s183, zU_ne (zne ha (zr (k := 27) (t2 := 84) hG ha rfl) (by decide)), e_s182, zU_ne (zne (zr (k := 34) (t2 := 91) hG ha rfl) (zr (k := 27) (t2 := 84) hG ha rfl) (by decide)), e_s181, zU_ne (zne (zr (k := 34) (t2 := 91) hG ha rfl) (zr (k := 27) (t2 := 84) hG ha rfl) (by decide)), e_s180, zU_ne (zne (zr (k := 34) (t2 := 91) hG ha rfl) (zr (k := 27) (t2 := 84) hG ha rfl) (by decide)), e_s179, zU_ne (zne (zr (k := 37) (t2 := 94) hG ha rfl) (zr (k := 27) (t2 := 84) hG ha rfl) (by decide)), e_s178, zU_ne (zne (zr (k := 37) (t2 := 94) hG ha rfl) (zr (k := 27) (t2 := 84) hG ha rfl) (by decide)), e_s177, zU_ne (zne (zr (k := 37) (t2 := 94) hG ha rfl) (zr (k := 27) (t2 := 84) hG ha rfl) (by decide)), e_s176, zU_ne (zne (zr (k := 37) (t2 := 94) hG ha rfl) (zr (k := 27) (t2 := 84) hG ha rfl) (by decide)), e_s175, zU_ne (zne (zr (k := 37) (t2 := 94) hG ha rfl) (zr (k := 27) (t2 := 84) hG ha rfl) (by decide)), e_s174, zU_ne (zne (zr (k := 37) (t2 := 94) hG ha rfl) (zr (k := 27) (t2 := 84) hG ha rfl) (by decide))]
    have g133 : s186 (gP G a 27) 488 = s154 (gP G a 27) 488 := (by rw [(zFr_g hF_s186 (zr (k := 27) (t2 := 84) hG ha rfl) (by decide)), (zFr_g hF_s185 (zr (k := 27) (t2 := 84) hG ha rfl) (by decide)), e_s184, zU_at (Or.inl (zne ha (zr (k := 27) (t2 := 84) hG ha rfl) (by decide))), e_s183, zU_at (Or.inl (zne ha (zr (k := 27) (t2 := 84) hG ha rfl) (by decide))), e_s182, zU_at (Or.inl (zne (zr (k := 34) (t2 := 91) hG ha rfl) (zr (k := 27) (t2 := 84) hG ha rfl) (by decide))), e_s181, zU_at (Or.inl (zne (zr (k := 34) (t2 := 91) hG ha rfl) (zr (k := 27) (t2 := 84) hG ha rfl) (by decide))), e_s180, zU_at (Or.inl (zne (zr (k := 34) (t2 := 91) hG ha rfl) (zr (k := 27) (t2 := 84) hG ha rfl) (by decide))), e_s179, zU_at (Or.inl (zne (zr (k := 37) (t2 := 94) hG ha rfl) (zr (k := 27) (t2 := 84) hG ha rfl) (by decide))), e_s178, zU_at (Or.inl (zne (zr (k := 37) (t2 := 94) hG ha rfl) (zr (k := 27) (t2 := 84) hG ha rfl) (by decide))), e_s177, zU_at (Or.inl (zne (zr (k := 37) (t2 := 94) hG ha rfl) (zr (k := 27) (t2 := 84) hG ha rfl) (by decide))), e_s176, zU_at (Or.inl (zne (zr (k := 37) (t2 := 94) hG ha rfl) (zr (k := 27) (t2 := 84) hG ha rfl) (by decide))), e_s175, zU_at (Or.inl (zne (zr (k := 37) (t2 := 94) hG ha rfl) (zr (k := 27) (t2 := 84) hG ha rfl) (by decide))), e_s174, zU_at (Or.inl (zne (zr (k := 37) (t2 := 94) hG ha rfl) (zr (k := 27) (t2 := 84) hG ha rfl) (by decide))), e_s173, zU_at (Or.inr (by decide))])
    have g134 : s186 a 24 = s154 a 24 := (by rw [(zFr_g hF_s186 ha (by decide)), (zFr_g hF_s185 ha (by decide)), e_s184, zU_at (Or.inr (by decide)), e_s183, zU_at (Or.inr (by decide)), e_s182, zU_at (Or.inl (zne (zr (k := 34) (t2 := 91) hG ha rfl) ha (by decide))), e_s181, zU_at (Or.inl (zne (zr (k := 34) (t2 := 91) hG ha rfl) ha (by decide))), e_s180, zU_at (Or.inl (zne (zr (k := 34) (t2 := 91) hG ha rfl) ha (by decide))), e_s179, zU_at (Or.inl (zne (zr (k := 37) (t2 := 94) hG ha rfl) ha (by decide))), e_s178, zU_at (Or.inl (zne (zr (k := 37) (t2 := 94) hG ha rfl) ha (by decide))), e_s177, zU_at (Or.inl (zne (zr (k := 37) (t2 := 94) hG ha rfl) ha (by decide))), e_s176, zU_at (Or.inl (zne (zr (k := 37) (t2 := 94) hG ha rfl) ha (by decide))), e_s175, zU_at (Or.inl (zne (zr (k := 37) (t2 := 94) hG ha rfl) ha (by decide))), e_s174, zU_at (Or.inl (zne (zr (k := 37) (t2 := 94) hG ha rfl) ha (by decide))), e_s173, zU_at (Or.inl (zne (zr (k := 27) (t2 := 84) hG ha rfl) ha (by decide)))])
    have g135 : s186 a 0 = s154 a 0 := (by rw [(zFr_g hF_s186 ha (by decide)), (zFr_g hF_s185 ha (by decide)), e_s184, zU_at (Or.inr (by decide)), e_s183, zU_at (Or.inr (by decide)), e_s182, zU_at (Or.inl (zne (zr (k := 34) (t2 := 91) hG ha rfl) ha (by decide))), e_s181, zU_at (Or.inl (zne (zr (k := 34) (t2 := 91) hG ha rfl) ha (by decide))), e_s180, zU_at (Or.inl (zne (zr (k := 34) (t2 := 91) hG ha rfl) ha (by decide))), e_s179, zU_at (Or.inl (zne (zr (k := 37) (t2 := 94) hG ha rfl) ha (by decide))), e_s178, zU_at (Or.inl (zne (zr (k := 37) (t2 := 94) hG ha rfl) ha (by decide))), e_s177, zU_at (Or.inl (zne (zr (k := 37) (t2 := 94) hG ha rfl) ha (by decide))), e_s176, zU_at (Or.inl (zne (zr (k := 37) (t2 := 94) hG ha rfl) ha (by decide))), e_s175, zU_at (Or.inl (zne (zr (k := 37) (t2 := 94) hG ha rfl) ha (by decide))), e_s174, zU_at (Or.inl (zne (zr (k := 37) (t2 := 94) hG ha rfl) ha (by decide))), e_s173, zU_at (Or.inl (zne (zr (k := 27) (t2 := 84) hG ha rfl) ha (by decide)))])
    have f136 := zf hS_s154 ha (k := 0) rfl
    have g137 : s186 a 3 = s154 a 3 := (by rw [(zFr_g hF_s186 ha (by decide)), (zFr_g hF_s185 ha (by decide)), e_s184, zU_at (Or.inr (by decide)), e_s183, zU_at (Or.inr (by decide)), e_s182, zU_at (Or.inl (zne (zr (k := 34) (t2 := 91) hG ha rfl) ha (by decide))), e_s181, zU_at (Or.inl (zne (zr (k := 34) (t2 := 91) hG ha rfl) ha (by decide))), e_s180, zU_at (Or.inl (zne (zr (k := 34) (t2 := 91) hG ha rfl) ha (by decide))), e_s179, zU_at (Or.inl (zne (zr (k := 37) (t2 := 94) hG ha rfl) ha (by decide))), e_s178, zU_at (Or.inl (zne (zr (k := 37) (t2 := 94) hG ha rfl) ha (by decide))), e_s177, zU_at (Or.inl (zne (zr (k := 37) (t2 := 94) hG ha rfl) ha (by decide))), e_s176, zU_at (Or.inl (zne (zr (k := 37) (t2 := 94) hG ha rfl) ha (by decide))), e_s175, zU_at (Or.inl (zne (zr (k := 37) (t2 := 94) hG ha rfl) ha (by decide))), e_s174, zU_at (Or.inl (zne (zr (k := 37) (t2 := 94) hG ha rfl) ha (by decide))), e_s173, zU_at (Or.inl (zne (zr (k := 27) (t2 := 84) hG ha rfl) ha (by decide)))])
    have f138 := zf hS_s154 ha (k := 3) rfl
    have g139 : s186 a 4 = s154 a 4 := (by rw [(zFr_g hF_s186 ha (by decide)), (zFr_g hF_s185 ha (by decide)), e_s184, zU_at (Or.inr (by decide)), e_s183, zU_at (Or.inr (by decide)), e_s182, zU_at (Or.inl (zne (zr (k := 34) (t2 := 91) hG ha rfl) ha (by decide))), e_s181, zU_at (Or.inl (zne (zr (k := 34) (t2 := 91) hG ha rfl) ha (by decide))), e_s180, zU_at (Or.inl (zne (zr (k := 34) (t2 := 91) hG ha rfl) ha (by decide))), e_s179, zU_at (Or.inl (zne (zr (k := 37) (t2 := 94) hG ha rfl) ha (by decide))), e_s178, zU_at (Or.inl (zne (zr (k := 37) (t2 := 94) hG ha rfl) ha (by decide))), e_s177, zU_at (Or.inl (zne (zr (k := 37) (t2 := 94) hG ha rfl) ha (by decide))), e_s176, zU_at (Or.inl (zne (zr (k := 37) (t2 := 94) hG ha rfl) ha (by decide))), e_s175, zU_at (Or.inl (zne (zr (k := 37) (t2 := 94) hG ha rfl) ha (by decide))), e_s174, zU_at (Or.inl (zne (zr (k := 37) (t2 := 94) hG ha rfl) ha (by decide))), e_s173, zU_at (Or.inl (zne (zr (k := 27) (t2 := 84) hG ha rfl) ha (by decide)))])
    have f140 := zf hS_s154 ha (k := 4) rfl
    have g141 : s186 a 5 = s154 a 5 := (by rw [(zFr_g hF_s186 ha (by decide)), (zFr_g hF_s185 ha (by decide)), e_s184, zU_at (Or.inr (by decide)), e_s183, zU_at (Or.inr (by decide)), e_s182, zU_at (Or.inl (zne (zr (k := 34) (t2 := 91) hG ha rfl) ha (by decide))), e_s181, zU_at (Or.inl (zne (zr (k := 34) (t2 := 91) hG ha rfl) ha (by decide))), e_s180, zU_at (Or.inl (zne (zr (k := 34) (t2 := 91) hG ha rfl) ha (by decide))), e_s179, zU_at (Or.inl (zne (zr (k := 37) (t2 := 94) hG ha rfl) ha (by decide))), e_s178, zU_at (Or.inl (zne (zr (k := 37) (t2 := 94) hG ha rfl) ha (by decide))), e_s177, zU_at (Or.inl (zne (zr (k := 37) (t2 := 94) hG ha rfl) ha (by decide))), e_s176, zU_at (Or.inl (zne (zr (k := 37) (t2 := 94) hG ha rfl) ha (by decide))), e_s175, zU_at (Or.inl (zne (zr (k := 37) (t2 := 94) hG ha rfl) ha (by decide))), e_s174, zU_at (Or.inl (zne (zr (k := 37) (t2 := 94) hG ha rfl) ha (by decide))), e_s173, zU_at (Or.inl (zne (zr (k := 27) (t2 := 84) hG ha rfl) ha (by decide)))])
    have f142 := zf hS_s154 ha (k := 5) rfl
    have g143 : s186 a 7 = s154 a 7 := (by rw [(zFr_g hF_s186 ha (by decide)), (zFr_g hF_s185 ha (by decide)), e_s184, zU_at (Or.inr (by decide)), e_s183, zU_at (Or.inr (by decide)), e_s182, zU_at (Or.inl (zne (zr (k := 34) (t2 := 91) hG ha rfl) ha (by decide))), e_s181, zU_at (Or.inl (zne (zr (k := 34) (t2 := 91) hG ha rfl) ha (by decide))), e_s180, zU_at (Or.inl (zne (zr (k := 34) (t2 := 91) hG ha rfl) ha (by decide))), e_s179, zU_at (Or.inl (zne (zr (k := 37) (t2 := 94) hG ha rfl) ha (by decide))), e_s178, zU_at (Or.inl (zne (zr (k := 37) (t2 := 94) hG ha rfl) ha (by decide))), e_s177, zU_at (Or.inl (zne (zr (k := 37) (t2 := 94) hG ha rfl) ha (by decide))), e_s176, zU_at (Or.inl (zne (zr (k := 37) (t2 := 94) hG ha rfl) ha (by decide))), e_s175, zU_at (Or.inl (zne (zr (k := 37) (t2 := 94) hG ha rfl) ha (by decide))), e_s174, zU_at (Or.inl (zne (zr (k := 37) (t2 := 94) hG ha rfl) ha (by decide))), e_s173, zU_at (Or.inl (zne (zr (k := 27) (t2 := 84) hG ha rfl) ha (by decide)))])
    have f144 := zf hS_s154 ha (k := 7) rfl
    have g145 : s186 a 21 = s154 a 21 := (by rw [(zFr_g hF_s186 ha (by decide)), (zFr_g hF_s185 ha (by decide)), e_s184, zU_at (Or.inr (by decide)), e_s183, zU_at (Or.inr (by decide)), e_s182, zU_at (Or.inl (zne (zr (k := 34) (t2 := 91) hG ha rfl) ha (by decide))), e_s181, zU_at (Or.inl (zne (zr (k := 34) (t2 := 91) hG ha rfl) ha (by decide))), e_s180, zU_at (Or.inl (zne (zr (k := 34) (t2 := 91) hG ha rfl) ha (by decide))), e_s179, zU_at (Or.inl (zne (zr (k := 37) (t2 := 94) hG ha rfl) ha (by decide))), e_s178, zU_at (Or.inl (zne (zr (k := 37) (t2 := 94) hG ha rfl) ha (by decide))), e_s177, zU_at (Or.inl (zne (zr (k := 37) (t2 := 94) hG ha rfl) ha (by decide))), e_s176, zU_at (Or.inl (zne (zr (k := 37) (t2 := 94) hG ha rfl) ha (by decide))), e_s175, zU_at (Or.inl (zne (zr (k := 37) (t2 := 94) hG ha rfl) ha (by decide))), e_s174, zU_at (Or.inl (zne (zr (k := 37) (t2 := 94) hG ha rfl) ha (by decide))), e_s173, zU_at (Or.inl (zne (zr (k := 27) (t2 := 84) hG ha rfl) ha (by decide)))])
    have f146 := zf hS_s154 ha (k := 21) rfl
    have g147 : s186 a 22 = s154 a 22 := (by rw [(zFr_g hF_s186 ha (by decide)), (zFr_g hF_s185 ha (by decide)), e_s184, zU_at (Or.inr (by decide)), e_s183, zU_at (Or.inr (by decide)), e_s182, zU_at (Or.inl (zne (zr (k := 34) (t2 := 91) hG ha rfl) ha (by decide))), e_s181, zU_at (Or.inl (zne (zr (k := 34) (t2 := 91) hG ha rfl) ha (by decide))), e_s180, zU_at (Or.inl (zne (zr (k := 34) (t2 := 91) hG ha rfl) ha (by decide))), e_s179, zU_at (Or.inl (zne (zr (k := 37) (t2 := 94) hG ha rfl) ha (by decide))), e_s178, zU_at (Or.inl (zne (zr (k := 37) (t2 := 94) hG ha rfl) ha (by decide))), e_s177, zU_at (Or.inl (zne (zr (k := 37) (t2 := 94) hG ha rfl) ha (by decide))), e_s176, zU_at (Or.inl (zne (zr (k := 37) (t2 := 94) hG ha rfl) ha (by decide))), e_s175, zU_at (Or.inl (zne (zr (k := 37) (t2 := 94) hG ha rfl) ha (by decide))), e_s174, zU_at (Or.inl (zne (zr (k := 37) (t2 := 94) hG ha rfl) ha (by decide))), e_s173, zU_at (Or.inl (zne (zr (k := 27) (t2 := 84) hG ha rfl) ha (by decide)))])
    have f148 := zf hS_s154 ha (k := 22) rfl
    have g149 : s186 a 23 = s154 a 23 := (by rw [(zFr_g hF_s186 ha (by decide)), (zFr_g hF_s185 ha (by decide)), e_s184, zU_at (Or.inr (by decide)), e_s183, zU_at (Or.inr (by decide)), e_s182, zU_at (Or.inl (zne (zr (k := 34) (t2 := 91) hG ha rfl) ha (by decide))), e_s181, zU_at (Or.inl (zne (zr (k := 34) (t2 := 91) hG ha rfl) ha (by decide))), e_s180, zU_at (Or.inl (zne (zr (k := 34) (t2 := 91) hG ha rfl) ha (by decide))), e_s179, zU_at (Or.inl (zne (zr (k := 37) (t2 := 94) hG ha rfl) ha (by decide))), e_s178, zU_at (Or.inl (zne (zr (k := 37) (t2 := 94) hG ha rfl) ha (by decide))), e_s177, zU_at (Or.inl (zne (zr (k := 37) (t2 := 94) hG ha rfl) ha (by decide))), e_s176, zU_at (Or.inl (zne (zr (k := 37) (t2 := 94) hG ha rfl) ha (by decide))), e_s175, zU_at (Or.inl (zne (zr (k := 37) (t2 := 94) hG ha rfl) ha (by decide))), e_s174, zU_at (Or.inl (zne (zr (k := 37) (t2 := 94) hG ha rfl) ha (by decide))), e_s173, zU_at (Or.inl (zne (zr (k := 27) (t2 := 84) hG ha rfl) ha (by decide)))])
    have f150 := zf hS_s154 ha (k := 23) rfl
    have g151 : s186 a 38 = s154 a 38 := (by rw [(zFr_g hF_s186 ha (by decide)), (zFr_g hF_s185 ha (by decide)), e_s184, zU_at (Or.inr (by decide)), e_s183, zU_at (Or.inr (by decide)), e_s182, zU_at (Or.inl (zne (zr (k := 34) (t2 := 91) hG ha rfl) ha (by decide))), e_s181, zU_at (Or.inl (zne (zr (k := 34) (t2 := 91) hG ha rfl) ha (by decide))), e_s180, zU_at (Or.inl (zne (zr (k := 34) (t2 := 91) hG ha rfl) ha (by decide))), e_s179, zU_at (Or.inl (zne (zr (k := 37) (t2 := 94) hG ha rfl) ha (by decide))), e_s178, zU_at (Or.inl (zne (zr (k := 37) (t2 := 94) hG ha rfl) ha (by decide))), e_s177, zU_at (Or.inl (zne (zr (k := 37) (t2 := 94) hG ha rfl) ha (by decide))), e_s176, zU_at (Or.inl (zne (zr (k := 37) (t2 := 94) hG ha rfl) ha (by decide))), e_s175, zU_at (Or.inl (zne (zr (k := 37) (t2 := 94) hG ha rfl) ha (by decide))), e_s174, zU_at (Or.inl (zne (zr (k := 37) (t2 := 94) hG ha rfl) ha (by decide))), e_s173, zU_at (Or.inl (zne (zr (k := 27) (t2 := 84) hG ha rfl) ha (by decide)))])
    have f152 := zf hS_s154 ha (k := 38) rfl
    have g153 : s186 a 51 = s154 a 51 := (by rw [(zFr_g hF_s186 ha (by decide)), (zFr_g hF_s185 ha (by decide)), e_s184, zU_at (Or.inr (by decide)), e_s183, zU_at (Or.inr (by decide)), e_s182, zU_at (Or.inl (zne (zr (k := 34) (t2 := 91) hG ha rfl) ha (by decide))), e_s181, zU_at (Or.inl (zne (zr (k := 34) (t2 := 91) hG ha rfl) ha (by decide))), e_s180, zU_at (Or.inl (zne (zr (k := 34) (t2 := 91) hG ha rfl) ha (by decide))), e_s179, zU_at (Or.inl (zne (zr (k := 37) (t2 := 94) hG ha rfl) ha (by decide))), e_s178, zU_at (Or.inl (zne (zr (k := 37) (t2 := 94) hG ha rfl) ha (by decide))), e_s177, zU_at (Or.inl (zne (zr (k := 37) (t2 := 94) hG ha rfl) ha (by decide))), e_s176, zU_at (Or.inl (zne (zr (k := 37) (t2 := 94) hG ha rfl) ha (by decide))), e_s175, zU_at (Or.inl (zne (zr (k := 37) (t2 := 94) hG ha rfl) ha (by decide))), e_s174, zU_at (Or.inl (zne (zr (k := 37) (t2 := 94) hG ha rfl) ha (by decide))), e_s173, zU_at (Or.inl (zne (zr (k := 27) (t2 := 84) hG ha rfl) ha (by decide)))])
    have f154 := zf hS_s154 ha (k := 51) rfl
    have g155 : s186 a 52 = s154 a 52 := (by rw [(zFr_g hF_s186 ha (by decide)), (zFr_g hF_s185 ha (by decide)), e_s184, zU_at (Or.inr (by decide)), e_s183, zU_at (Or.inr (by decide)), e_s182, zU_at (Or.inl (zne (zr (k := 34) (t2 := 91) hG ha rfl) ha (by decide))), e_s181, zU_at (Or.inl (zne (zr (k := 34) (t2 := 91) hG ha rfl) ha (by decide))), e_s180, zU_at (Or.inl (zne (zr (k := 34) (t2 := 91) hG ha rfl) ha (by decide))), e_s179, zU_at (Or.inl (zne (zr (k := 37) (t2 := 94) hG ha rfl) ha (by decide))), e_s178, zU_at (Or.inl (zne (zr (k := 37) (t2 := 94) hG ha rfl) ha (by decide))), e_s177, zU_at (Or.inl (zne (zr (k := 37) (t2 := 94) hG ha rfl) ha (by decide))), e_s176, zU_at (Or.inl (zne (zr (k := 37) (t2 := 94) hG ha rfl) ha (by decide))), e_s175, zU_at (Or.inl (zne (zr (k := 37) (t2 := 94) hG ha rfl) ha (by decide))), e_s174, zU_at (Or.inl (zne (zr (k := 37) (t2 := 94) hG ha rfl) ha (by decide))), e_s173, zU_at (Or.inl (zne (zr (k := 27) (t2 := 84) hG ha rfl) ha (by decide)))])
    have f156 := zf hS_s154 ha (k := 52) rfl
    exact j_vret hx hq rfl (by decide) (by decide) dX12_sets_336 ⟨rfl, rfl, hS_s186, (zFr_t (zFr_t (zFr_u (zFr_u (zFr_u (zFr_u (zFr_u (zFr_u (zFr_u (zFr_u (zFr_u (zFr_u (zFr_u (zFr_u (zFr_t zFr_rf hF_s154 (by decide)) e_s173 (zr (k := 27) (t2 := 84) hG ha rfl) (by decide)) e_s174 (zr (k := 37) (t2 := 94) hG ha rfl) (by decide)) e_s175 (zr (k := 37) (t2 := 94) hG ha rfl) (by decide)) e_s176 (zr (k := 37) (t2 := 94) hG ha rfl) (by decide)) e_s177 (zr (k := 37) (t2 := 94) hG ha rfl) (by decide)) e_s178 (zr (k := 37) (t2 := 94) hG ha rfl) (by decide)) e_s179 (zr (k := 37) (t2 := 94) hG ha rfl) (by decide)) e_s180 (zr (k := 34) (t2 := 91) hG ha rfl) (by decide)) e_s181 (zr (k := 34) (t2 := 91) hG ha rfl) (by decide)) e_s182 (zr (k := 34) (t2 := 91) hG ha rfl) (by decide)) e_s183 ha (by decide)) e_s184 ha (by decide)) hF_s185 (by decide)) hF_s186 (by decide)), ⟨by omega, by omega, by omega, by omega, (by have q1 : s186 (gP G a 17) = s154 (gP G a 17) := (by rw [hF_s186 (gP G a 17) (by rw [(zr (k := 17) (t2 := 80) hG ha rfl)]; decide), hF_s185 (gP G a 17) (by rw [(zr (k := 17) (t2 := 80) hG ha rfl)]; decide), e_s184, zU_ne (zne ha (zr (k := 17) (t2 := 80) hG ha rfl) (by decide)), e_s183, zU_ne (zne ha (zr (k := 17) (t2 := 80) hG ha rfl) (by decide)), e_s182, zU_ne (zne (zr (k := 34) (t2 := 91) hG ha rfl) (zr (k := 17) (t2 := 80) hG ha rfl) (by decide)), e_s181, zU_ne (zne (zr (k := 34) (t2 := 91) hG ha rfl) (zr (k := 17) (t2 := 80) hG ha rfl) (by decide)), e_s180, zU_ne (zne (zr (k := 34) (t2 := 91) hG ha rfl) (zr (k := 17) (t2 := 80) hG ha rfl) (by decide)), e_s179, zU_ne (zne (zr (k := 37) (t2 := 94) hG ha rfl) (zr (k := 17) (t2 := 80) hG ha rfl) (by decide)), e_s178, zU_ne (zne (zr (k := 37) (t2 := 94) hG ha rfl) (zr (k := 17) (t2 := 80) hG ha rfl) (by decide)), e_s177, zU_ne (zne (zr (k := 37) (t2 := 94) hG ha rfl) (zr (k := 17) (t2 := 80) hG ha rfl) (by decide)), e_s176, zU_ne (zne (zr (k := 37) (t2 := 94) hG ha rfl) (zr (k := 17) (t2 := 80) hG ha rfl) (by decide)), e_s175, zU_ne (zne (zr (k := 37) (t2 := 94) hG ha rfl) (zr (k := 17) (t2 := 80) hG ha rfl) (by decide)), e_s174, zU_ne (zne (zr (k := 37) (t2 := 94) hG ha rfl) (zr (k := 17) (t2 := 80) hG ha rfl) (by decide)), e_s173, zU_ne (zne (zr (k := 27) (t2 := 84) hG ha rfl) (zr (k := 17) (t2 := 80) hG ha rfl) (by decide))]); rw [q1]; exact (zQn_nn fA169 (by omega))), (by have q1 : s186 (gP G a 34) = s182 (gP G a 34) := (by rw [hF_s186 (gP G a 34) (by rw [(zr (k := 34) (t2 := 91) hG ha rfl)]; decide), hF_s185 (gP G a 34) (by rw [(zr (k := 34) (t2 := 91) hG ha rfl)]; decide), e_s184, zU_ne (zne ha (zr (k := 34) (t2 := 91) hG ha rfl) (by decide)), e_s183, zU_ne (zne ha (zr (k := 34) (t2 := 91) hG ha rfl) (by decide))]); have q2 : s186 (gP G a 35) = s182 (gP G a 35) := (by rw [hF_s186 (gP G a 35) (by rw [(zr (k := 35) (t2 := 92) hG ha rfl)]; decide), hF_s185 (gP G a 35) (by rw [(zr (k := 35) (t2 := 92) hG ha rfl)]; decide), e_s184, zU_ne (zne ha (zr (k := 35) (t2 := 92) hG ha rfl) (by decide)), e_s183, zU_ne (zne ha (zr (k := 35) (t2 := 92) hG ha rfl) (by decide))]); have q3 : s186 (gP G a 37) = s182 (gP G a 37) := (by rw [hF_s186 (gP G a 37) (by rw [(zr (k := 37) (t2 := 94) hG ha rfl)]; decide), hF_s185 (gP G a 37) (by rw [(zr (k := 37) (t2 := 94) hG ha rfl)]; decide), e_s184, zU_ne (zne ha (zr (k := 37) (t2 := 94) hG ha rfl) (by decide)), e_s183, zU_ne (zne ha (zr (k := 37) (t2 := 94) hG ha rfl) (by decide))]); rw [q1, q2, q3]; exact hP125), by omega, by omega, by omega, by omega, by omega, by omega, by omega, by omega, by omega, by omega, by omega⟩⟩
  have x102_109 : ∀ (v66 : Int) (s110 : zS), (0 ≤ v66 ∧ v66 ≤ 60) → (zSK G s110) → (zFr [13, 80, 81, 82, 83, 84, 85, 87, 91, 94] G s0 s110) → (s110 a 0 = s0 a 0) → (s110 a 3 = s0 a 3) → (s110 a 4 = s0 a 4) → (s110 a 5 = s0 a 5) → (s110 a 7 = s0 a 7) → (s110 a 21 = s0 a 21) → (s110 a 22 = s0 a 22) → (s110 a 23 = s0 a 23) → (s110 a 38 = s0 a 38) → (s110 a 51 = s0 a 51) → (s110 a 52 = s0 a 52) → (zQn (s110 (gP G a 17)) (s110 a 24)) → (zc (s110 (gP G a 27)) ≤ v66) → (s110 a 24 = s0 a 21) → (v66 ≤ s0 (gP G a 13) 0 + s0 (gP G a 13) 1 ∧ s110 (gP G a 27) 482 = 0 ∧ s110 (gP G a 27) 488 = 0) → JJ X E 4 G s110 0 0 [(0, .ref a), (1, .int (zI v66)), (2, .int (zI 2))] 102 [] := by
    intro v66 s110 fA111 hS_s110 hF_s110 fA114 fA115 fA116 fA117 fA118 fA119 fA120 fA121 fA122 fA123 fA124 fA125 fA126 fA127 fA128
    have f67 := zaI (j := 0) hS0 (zr (k := 13) (t2 := 76) hG ha rfl) rfl (zlen hG (zr (k := 13) (t2 := 76) hG ha rfl) (n := 3) rfl rfl) (show (0 : Int) ≤ 0 by decide) (by decide) rfl
    have f68 := zaI (j := 1) hS0 (zr (k := 13) (t2 := 76) hG ha rfl) rfl (zlen hG (zr (k := 13) (t2 := 76) hG ha rfl) (n := 3) rfl rfl) (show (0 : Int) ≤ 1 by decide) (by decide) rfl
    have f69 := zaI (j := 2) hS0 (zr (k := 13) (t2 := 76) hG ha rfl) rfl (zlen hG (zr (k := 13) (t2 := 76) hG ha rfl) (n := 3) rfl rfl) (show (0 : Int) ≤ 2 by decide) (by decide) rfl
    refine j_iload_n hx 2 dX12_sets_102 rfl ?_
    refine j_iconst hx dX12_sets_103 ?_
    refine j_icmp_ge hx 250 dX12_sets_104 rfl ⟨by decide, by decide⟩ ⟨by decide, by decide⟩ (fun h70 => absurd h70 (by omega)) (fun h70 => ?_)
    refine j_aload_n hx 0 dX12_sets_107 rfl ?_
    refine g13_18 hx hG ha kf_RX12_47 dX12_sets_108 ?_
    refine j_iload_n hx 2 dX12_sets_111 rfl ?_
    refine j_aload_n hx 0 dX12_sets_112 rfl ?_
    refine g13_11 hx hG ha kf_RX12_26 dX12_sets_113 ?_
    refine j_iload_n hx 2 dX12_sets_116 rfl ?_
    have f71 := zaI (j := 2) hS0 (zr (k := 11) (t2 := 74) hG ha rfl) rfl (zlen hG (zr (k := 11) (t2 := 74) hG ha rfl) (n := 3) rfl rfl) (show 0 ≤ 2 by omega) (by omega) rfl
    refine j_iald hx hG (zr (k := 11) (t2 := 74) hG ha rfl) (by decide) rfl (zlen hG (zr (k := 11) (t2 := 74) hG ha rfl) (n := 3) rfl rfl) (by omega) (by omega) (j := 2) rfl (v := (s0 (gP G a 11) 2)) (by rw [(zFr_g hF_s110 (zr (k := 11) (t2 := 74) hG ha rfl) (by decide))]) dX12_sets_117 ?_
    refine j_iast hx hG (zr (k := 18) (t2 := 81) hG ha rfl) (by decide) rfl (zlen hG (zr (k := 18) (t2 := 81) hG ha rfl) (n := 3) rfl rfl) (by omega) (by omega) (j := 2) rfl dX12_sets_118 ?_
    obtain ⟨s129, e_s129⟩ : ∃ z, z = zU s110 (gP G a 18) 2 ((s0 (gP G a 11) 2)) := ⟨_, rfl⟩
    rw [← e_s129]
    have hS_s129 : zSK G s129 := by rw [e_s129]; exact zSK_A hS_s110 (zr (k := 18) (t2 := 81) hG ha rfl) rfl rfl rfl (by omega)
    refine j_aload_n hx 0 dX12_sets_119 rfl ?_
    refine g13_27 hx hG ha kf_RX12_56 dX12_sets_120 ?_
    refine j_sipush hx dX12_sets_123 rfl ?_
    refine j_iload_n hx 2 dX12_sets_126 rfl ?_
    refine j_iadd hx (r := 493) dX12_sets_127 (by omega) ?_
    refine j_aload_n hx 0 dX12_sets_128 rfl ?_
    refine g13_15 hx hG ha kf_RX12_38 dX12_sets_129 ?_
    refine j_iload_n hx 2 dX12_sets_132 rfl ?_
    have f72 := zaI (j := 2) hS0 (zr (k := 15) (t2 := 78) hG ha rfl) rfl (zlen hG (zr (k := 15) (t2 := 78) hG ha rfl) (n := 3) rfl rfl) (show 0 ≤ 2 by omega) (by omega) rfl
    refine j_iald hx hG (zr (k := 15) (t2 := 78) hG ha rfl) (by decide) rfl (zlen hG (zr (k := 15) (t2 := 78) hG ha rfl) (n := 3) rfl rfl) (by omega) (by omega) (j := 2) rfl (v := (s0 (gP G a 15) 2)) (by rw [e_s129, zU_at (Or.inl (zne (zr (k := 18) (t2 := 81) hG ha rfl) (zr (k := 15) (t2 := 78) hG ha rfl) (by decide))), (zFr_g hF_s110 (zr (k := 15) (t2 := 78) hG ha rfl) (by decide))]) dX12_sets_133 ?_
    refine j_iast hx hG (zr (k := 27) (t2 := 84) hG ha rfl) (by decide) rfl (zlen hG (zr (k := 27) (t2 := 84) hG ha rfl) (n := 515) rfl rfl) (by omega) (by omega) (j := 493) rfl dX12_sets_134 ?_
    obtain ⟨s130, e_s130⟩ : ∃ z, z = zU s129 (gP G a 27) 493 ((s0 (gP G a 15) 2)) := ⟨_, rfl⟩
    rw [← e_s130]
    have hS_s130 : zSK G s130 := by rw [e_s130]; exact zSK_a hS_s129 (zr (k := 27) (t2 := 84) hG ha rfl) rfl rfl (congrArg some (axS_7 493 (by omega))) (by omega)
    have g74 : zc (s129 (gP G a 27)) = zc (s110 (gP G a 27)) := by rw [e_s129, zU_ne (zne (zr (k := 18) (t2 := 81) hG ha rfl) (zr (k := 27) (t2 := 84) hG ha rfl) (by decide))]
    have z73 : zc (s130 (gP G a 27)) = zc (s129 (gP G a 27)) := by rw [e_s130]; exact zc_o (by omega)
    refine j_aload_n hx 0 dX12_sets_135 rfl ?_
    refine g13_27 hx hG ha kf_RX12_56 dX12_sets_136 ?_
    refine j_sipush hx dX12_sets_139 rfl ?_
    refine j_iload_n hx 2 dX12_sets_142 rfl ?_
    refine j_iadd hx (r := 482) dX12_sets_143 (by omega) ?_
    refine j_iload_n hx 2 dX12_sets_144 rfl ?_
    refine j_aload_n hx 0 dX12_sets_145 rfl ?_
    have f75 := zf hS_s110 ha (k := 21) rfl
    refine g13_21 hx hG ha kf_RX12_180 (v := (s110 a 21)) (by rw [e_s130, zU_at (Or.inl (zne (zr (k := 27) (t2 := 84) hG ha rfl) ha (by decide))), e_s129, zU_at (Or.inl (zne (zr (k := 18) (t2 := 81) hG ha rfl) ha (by decide)))]) dX12_sets_146 ?_
    have c162_131 : ∀ (v76 : Int), (0 ≤ v76 ∧ v76 ≤ 60) → (0 ≤ v76 ∧ v76 ≤ 60) → (v76 ≤ s0 (gP G a 13) 2) → JJ X E 4 G s130 0 0 [(0, .ref a), (1, .int (zI v66)), (2, .int (zI 2))] 162 [.int (zI v76), .int (zI 482), .ref (gP G a 27)] := by
      intro v76 fA132 fA133 fA134
      refine j_iast hx hG (zr (k := 27) (t2 := 84) hG ha rfl) (by decide) rfl (zlen hG (zr (k := 27) (t2 := 84) hG ha rfl) (n := 515) rfl rfl) (by omega) (by omega) (j := 482) rfl dX12_sets_162 ?_
      obtain ⟨s135, e_s135⟩ : ∃ z, z = zU s130 (gP G a 27) 482 v76 := ⟨_, rfl⟩
      rw [← e_s135]
      have hS_s135 : zSK G s135 := by rw [e_s135]; exact zSK_a hS_s130 (zr (k := 27) (t2 := 84) hG ha rfl) rfl rfl (congrArg some (axS_2 482 (by omega))) (by omega)
      have g78 : s130 (gP G a 27) 482 = s110 (gP G a 27) 482 := (by rw [e_s130, zU_at (Or.inr (by decide)), e_s129, zU_at (Or.inl (zne (zr (k := 18) (t2 := 81) hG ha rfl) (zr (k := 27) (t2 := 84) hG ha rfl) (by decide)))])
      have g79 : s135 (gP G a 27) 482 = v76 := (by rw [e_s135, zU_eq])
      have z77 : zc (s135 (gP G a 27)) = zc (s130 (gP G a 27)) - s130 (gP G a 27) 482 + s135 (gP G a 27) 482 := by rw [e_s135, zU_eq]; exact zc_w (by omega) (by omega)
      refine j_iconst hx dX12_sets_163 ?_
      refine j_istore_n hx [(3, .int (zI 0)), (0, .ref a), (1, .int (zI v66)), (2, .int (zI 2))] dX12_sets_164 (by decide) rfl ?_
      have g82 : s135 (gP G a 27) 480 = s110 (gP G a 27) 480 := (by rw [e_s135, zU_at (Or.inr (by decide)), e_s130, zU_at (Or.inr (by decide)), e_s129, zU_at (Or.inl (zne (zr (k := 18) (t2 := 81) hG ha rfl) (zr (k := 27) (t2 := 84) hG ha rfl) (by decide)))])
      have g83 : s135 (gP G a 27) 481 = s110 (gP G a 27) 481 := (by rw [e_s135, zU_at (Or.inr (by decide)), e_s130, zU_at (Or.inr (by decide)), e_s129, zU_at (Or.inl (zne (zr (k := 18) (t2 := 81) hG ha rfl) (zr (k := 27) (t2 := 84) hG ha rfl) (by decide)))])
      have g84 : s135 (gP G a 27) 483 = s110 (gP G a 27) 483 := (by rw [e_s135, zU_at (Or.inr (by decide)), e_s130, zU_at (Or.inr (by decide)), e_s129, zU_at (Or.inl (zne (zr (k := 18) (t2 := 81) hG ha rfl) (zr (k := 27) (t2 := 84) hG ha rfl) (by decide)))])
      have g85 : s135 (gP G a 27) 484 = s110 (gP G a 27) 484 := (by rw [e_s135, zU_at (Or.inr (by decide)), e_s130, zU_at (Or.inr (by decide)), e_s129, zU_at (Or.inl (zne (zr (k := 18) (t2 := 81) hG ha rfl) (zr (k := 27) (t2 := 84) hG ha rfl) (by decide)))])
      have g86 : s135 (gP G a 27) 485 = s110 (gP G a 27) 485 := (by rw [e_s135, zU_at (Or.inr (by decide)), e_s130, zU_at (Or.inr (by decide)), e_s129, zU_at (Or.inl (zne (zr (k := 18) (t2 := 81) hG ha rfl) (zr (k := 27) (t2 := 84) hG ha rfl) (by decide)))])
      have g87 : s135 (gP G a 27) 486 = s110 (gP G a 27) 486 := (by rw [e_s135, zU_at (Or.inr (by decide)), e_s130, zU_at (Or.inr (by decide)), e_s129, zU_at (Or.inl (zne (zr (k := 18) (t2 := 81) hG ha rfl) (zr (k := 27) (t2 := 84) hG ha rfl) (by decide)))])
      have g88 : s135 (gP G a 27) 488 = s110 (gP G a 27) 488 := (by rw [e_s135, zU_at (Or.inr (by decide)), e_s130, zU_at (Or.inr (by decide)), e_s129, zU_at (Or.inl (zne (zr (k := 18) (t2 := 81) hG ha rfl) (zr (k := 27) (t2 := 84) hG ha rfl) (by decide)))])
      have c165_136 : ∀ (m_c165_136 : Nat) (v80 : Int) (v81 : Int) (s137 : zS), 2147483648 - v81 < m_c165_136 → (0 ≤ v80 ∧ v80 ≤ 60) → (0 ≤ v81 ∧ v81 ≤ 60) → (zSK G s137) → (zFr [82, 84] G s135 s137) → (zc (s137 (gP G a 27)) = zc (s135 (gP G a 27))) → (v80 = v66 + v81) → (s137 (gP G a 27) 480 = s135 (gP G a 27) 480) → (s137 (gP G a 27) 481 = s135 (gP G a 27) 481) → (s137 (gP G a 27) 482 = s135 (gP G a 27) 482) → (s137 (gP G a 27) 483 = s135 (gP G a 27) 483) → (s137 (gP G a 27) 484 = s135 (gP G a 27) 484) → (s137 (gP G a 27) 485 = s135 (gP G a 27) 485) → (s137 (gP G a 27) 486 = s135 (gP G a 27) 486) → (s137 (gP G a 27) 488 = s135 (gP G a 27) 488) → (v81 ≤ s137 (gP G a 27) 482) → JJ X E 4 G s137 0 0 [(0, .ref a), (1, .int (zI v80)), (2, .int (zI 2)), (3, .int (zI v81))] 165 [] := by
        intro m_c165_136
        induction m_c165_136 with
        | zero => intro v80 v81 s137 hm_c165_136 fA138 fA139 hS_s137 hF_s137 fA142 fA143 fA144 fA145 fA146 fA147 fA148 fA149 fA150 fA151 fA152; exfalso; omega
        | succ m_c165_136 ih_c165_136 => 
          intro v80 v81 s137 hm_c165_136 fA138 fA139 hS_s137 hF_s137 fA142 fA143 fA144 fA145 fA146 fA147 fA148 fA149 fA150 fA151 fA152
          refine j_iload_n hx 3 dX12_sets_165 rfl ?_
          refine j_aload_n hx 0 dX12_sets_166 rfl ?_
          refine g13_27 hx hG ha kf_RX12_56 dX12_sets_167 ?_
          refine j_sipush hx dX12_sets_170 rfl ?_
          refine j_iload_n hx 2 dX12_sets_173 rfl ?_
          refine j_iadd hx (r := 482) dX12_sets_174 (by omega) ?_
          have f89 := zaQ (j := 482) hS_s137 (zr (k := 27) (t2 := 84) hG ha rfl) (congrArg some (axS_2 482 (by omega))) (zlen hG (zr (k := 27) (t2 := 84) hG ha rfl) (n := 515) rfl rfl) (show 0 ≤ 482 by omega) (by omega) rfl
          have c90 := zc_1 (j := 482) hS_s137 (zr (k := 27) (t2 := 84) hG ha rfl) (zn hG (zr (k := 27) (t2 := 84) hG ha rfl) rfl) (by omega) (by omega)
          refine j_iald hx hG (zr (k := 27) (t2 := 84) hG ha rfl) (by decide) rfl (zlen hG (zr (k := 27) (t2 := 84) hG ha rfl) (n := 515) rfl rfl) (by omega) (by omega) (j := 482) rfl rfl dX12_sets_175 ?_
          refine j_icmp_ge hx 244 dX12_sets_176 rfl (by omega) (by omega) (fun h91 => ?_) (fun h91 => ?_)
          · skip
            refine j_iinc hx 2 [(2, .int (zI 3)), (0, .ref a), (1, .int (zI v80)), (3, .int (zI v81))] dX12_sets_244 rfl (by omega) (by decide) rfl ?_
            refine j_goto hx 102 dX12_sets_247 rfl ?_
            have g157 : s137 a 0 = s110 a 0 := (by rw [(zFr_g hF_s137 ha (by decide)), e_s135, zU_at (Or.inl (zne (zr (k := 27) (t2 := 84) hG ha rfl) ha (by decide))), e_s130, zU_at (Or.inl (zne (zr (k := 27) (t2 := 84) hG ha rfl) ha (by decide))), e_s129, zU_at (Or.inl (zne (zr (k := 18) (t2 := 81) hG ha rfl) ha (by decide)))])
            have f158 := zf hS_s110 ha (k := 0) rfl
            have g159 : s137 a 3 = s110 a 3 := (by rw [(zFr_g hF_s137 ha (by decide)), e_s135, zU_at (Or.inl (zne (zr (k := 27) (t2 := 84) hG ha rfl) ha (by decide))), e_s130, zU_at (Or.inl (zne (zr (k := 27) (t2 := 84) hG ha rfl) ha (by decide))), e_s129, zU_at (Or.inl (zne (zr (k := 18) (t2 := 81) hG ha rfl) ha (by decide)))])
            have f160 := zf hS_s110 ha (k := 3) rfl
            have g161 : s137 a 4 = s110 a 4 := (by rw [(zFr_g hF_s137 ha (by decide)), e_s135, zU_at (Or.inl (zne (zr (k := 27) (t2 := 84) hG ha rfl) ha (by decide))), e_s130, zU_at (Or.inl (zne (zr (k := 27) (t2 := 84) hG ha rfl) ha (by decide))), e_s129, zU_at (Or.inl (zne (zr (k := 18) (t2 := 81) hG ha rfl) ha (by decide)))])
            have f162 := zf hS_s110 ha (k := 4) rfl
            have g163 : s137 a 5 = s110 a 5 := (by rw [(zFr_g hF_s137 ha (by decide)), e_s135, zU_at (Or.inl (zne (zr (k := 27) (t2 := 84) hG ha rfl) ha (by decide))), e_s130, zU_at (Or.inl (zne (zr (k := 27) (t2 := 84) hG ha rfl) ha (by decide))), e_s129, zU_at (Or.inl (zne (zr (k := 18) (t2 := 81) hG ha rfl) ha (by decide)))])
            have f164 := zf hS_s110 ha (k := 5) rfl
            have g165 : s137 a 7 = s110 a 7 := (by rw [(zFr_g hF_s137 ha (by decide)), e_s135, zU_at (Or.inl (zne (zr (k := 27) (t2 := 84) hG ha rfl) ha (by decide))), e_s130, zU_at (Or.inl (zne (zr (k := 27) (t2 := 84) hG ha rfl) ha (by decide))), e_s129, zU_at (Or.inl (zne (zr (k := 18) (t2 := 81) hG ha rfl) ha (by decide)))])
            have f166 := zf hS_s110 ha (k := 7) rfl
            have g167 : s137 a 21 = s110 a 21 := (by rw [(zFr_g hF_s137 ha (by decide)), e_s135, zU_at (Or.inl (zne (zr (k := 27) (t2 := 84) hG ha rfl) ha (by decide))), e_s130, zU_at (Or.inl (zne (zr (k := 27) (t2 := 84) hG ha rfl) ha (by decide))), e_s129, zU_at (Or.inl (zne (zr (k := 18) (t2 := 81) hG ha rfl) ha (by decide)))])
            have g168 : s137 a 22 = s110 a 22 := (by rw [(zFr_g hF_s137 ha (by decide)), e_s135, zU_at (Or.inl (zne (zr (k := 27) (t2 := 84) hG ha rfl) ha (by decide))), e_s130, zU_at (Or.inl (zne (zr (k := 27) (t2 := 84) hG ha rfl) ha (by decide))), e_s129, zU_at (Or.inl (zne (zr (k := 18) (t2 := 81) hG ha rfl) ha (by decide)))])
            have f169 := zf hS_s110 ha (k := 22) rfl
            have g170 : s137 a 23 = s110 a 23 := (by rw [(zFr_g hF_s137 ha (by decide)), e_s135, zU_at (Or.inl (zne (zr (k := 27) (t2 := 84) hG ha rfl) ha (by decide))), e_s130, zU_at (Or.inl (zne (zr (k := 27) (t2 := 84) hG ha rfl) ha (by decide))), e_s129, zU_at (Or.inl (zne (zr (k := 18) (t2 := 81) hG ha rfl) ha (by decide)))])
            have f171 := zf hS_s110 ha (k := 23) rfl
            have g172 : s137 a 38 = s110 a 38 := (by rw [(zFr_g hF_s137 ha (by decide)), e_s135, zU_at (Or.inl (zne (zr (k := 27) (t2 := 84) hG ha rfl) ha (by decide))), e_s130, zU_at (Or.inl (zne (zr (k := 27) (t2 := 84) hG ha rfl) ha (by decide))), e_s129, zU_at (Or.inl (zne (zr (k := 18) (t2 := 81) hG ha rfl) ha (by decide)))])
            have f173 := zf hS_s110 ha (k := 38) rfl
            have g174 : s137 a 51 = s110 a 51 := (by rw [(zFr_g hF_s137 ha (by decide)), e_s135, zU_at (Or.inl (zne (zr (k := 27) (t2 := 84) hG ha rfl) ha (by decide))), e_s130, zU_at (Or.inl (zne (zr (k := 27) (t2 := 84) hG ha rfl) ha (by decide))), e_s129, zU_at (Or.inl (zne (zr (k := 18) (t2 := 81) hG ha rfl) ha (by decide)))])
            have f175 := zf hS_s110 ha (k := 51) rfl
            have g176 : s137 a 52 = s110 a 52 := (by rw [(zFr_g hF_s137 ha (by decide)), e_s135, zU_at (Or.inl (zne (zr (k := 27) (t2 := 84) hG ha rfl) ha (by decide))), e_s130, zU_at (Or.inl (zne (zr (k := 27) (t2 := 84) hG ha rfl) ha (by decide))), e_s129, zU_at (Or.inl (zne (zr (k := 18) (t2 := 81) hG ha rfl) ha (by decide)))])
            have f177 := zf hS_s110 ha (k := 52) rfl
            have g178 : s137 a 24 = s110 a 24 := (by rw [(zFr_g hF_s137 ha (by decide)), e_s135, zU_at (Or.inl (zne (zr (k := 27) (t2 := 84) hG ha rfl) ha (by decide))), e_s130, zU_at (Or.inl (zne (zr (k := 27) (t2 := 84) hG ha rfl) ha (by decide))), e_s129, zU_at (Or.inl (zne (zr (k := 18) (t2 := 81) hG ha rfl) ha (by decide)))])
            have f179 := zf hS_s110 ha (k := 24) rfl
            exact j_sub [1, 2, 0] [(0, .ref a), (1, .int (zI v80)), (2, .int (zI 3))] rfl (x102_153 v80 s137 (by omega) hS_s137 (zFr_t (zFr_u (zFr_u (zFr_u (zFr_t zFr_rf hF_s110 (by decide)) e_s129 (zr (k := 18) (t2 := 81) hG ha rfl) (by decide)) e_s130 (zr (k := 27) (t2 := 84) hG ha rfl) (by decide)) e_s135 (zr (k := 27) (t2 := 84) hG ha rfl) (by decide)) hF_s137 (by decide)) (by omega) (by omega) (by omega) (by omega) (by omega) (by omega) (by omega) (by omega) (by omega) (by omega) (by omega) (by have q1 : s137 (gP G a 17) = s110 (gP G a 17) := (by rw [hF_s137 (gP G a 17) (by rw [(zr (k := 17) (t2 := 80) hG ha rfl)]; decide), e_s135, zU_ne (zne (zr (k := 27) (t2 := 84) hG ha rfl) (zr (k := 17) (t2 := 80) hG ha rfl) (by decide)), e_s130, zU_ne (zne (zr (k := 27) (t2 := 84) hG ha rfl) (zr (k := 17) (t2 := 80) hG ha rfl) (by decide)), e_s129, zU_ne (zne (zr (k := 18) (t2 := 81) hG ha rfl) (zr (k := 17) (t2 := 80) hG ha rfl) (by decide))]); rw [q1]; exact (zQn_nn fA125 (by omega))) (by omega) (by omega) (by omega))
          · skip
            refine j_aload_n hx 0 dX12_sets_179 rfl ?_
            refine g13_19 hx hG ha kf_RX12_50 dX12_sets_180 ?_
            refine j_iload_n hx 1 dX12_sets_183 rfl ?_
            refine j_aload_n hx 0 dX12_sets_184 rfl ?_
            refine g13_12 hx hG ha kf_RX12_29 dX12_sets_185 ?_
            refine j_bipush hx dX12_sets_188 rfl ?_
            refine j_iload_n hx 2 dX12_sets_190 rfl ?_
            refine j_imul hx (r := 120) dX12_sets_191 (by omega) ?_
            refine j_iload_n hx 3 dX12_sets_192 rfl ?_
            refine j_iadd hx (r := v81 + 120) dX12_sets_193 (by omega) ?_
            have f180 := zaI (j := (v81 + 120).toNat) hS0 (zr (k := 12) (t2 := 75) hG ha rfl) rfl (zlen hG (zr (k := 12) (t2 := 75) hG ha rfl) (n := 180) rfl rfl) (show 0 ≤ v81 + 120 by omega) (by omega) rfl
            refine j_iald hx hG (zr (k := 12) (t2 := 75) hG ha rfl) (by decide) rfl (zlen hG (zr (k := 12) (t2 := 75) hG ha rfl) (n := 180) rfl rfl) (by omega) (by omega) (j := (v81 + 120).toNat) rfl (v := (s0 (gP G a 12) (v81 + 120).toNat)) (by rw [(zFr_g hF_s137 (zr (k := 12) (t2 := 75) hG ha rfl) (by decide)), e_s135, zU_at (Or.inl (zne (zr (k := 27) (t2 := 84) hG ha rfl) (zr (k := 12) (t2 := 75) hG ha rfl) (by decide))), e_s130, zU_at (Or.inl (zne (zr (k := 27) (t2 := 84) hG ha rfl) (zr (k := 12) (t2 := 75) hG ha rfl) (by decide))), e_s129, zU_at (Or.inl (zne (zr (k := 18) (t2 := 81) hG ha rfl) (zr (k := 12) (t2 := 75) hG ha rfl) (by decide))), (zFr_g hF_s110 (zr (k := 12) (t2 := 75) hG ha rfl) (by decide))]) dX12_sets_194 ?_
            refine j_iast hx hG (zr (k := 19) (t2 := 82) hG ha rfl) (by decide) rfl (zlen hG (zr (k := 19) (t2 := 82) hG ha rfl) (n := 60) rfl rfl) (by omega) (by omega) (j := (v80).toNat) rfl dX12_sets_195 ?_
            obtain ⟨s187, e_s187⟩ : ∃ z, z = zU s137 (gP G a 19) (v80).toNat ((s0 (gP G a 12) (v81 + 120).toNat)) := ⟨_, rfl⟩
            rw [← e_s187]
            have hS_s187 : zSK G s187 := by rw [e_s187]; exact zSK_A hS_s137 (zr (k := 19) (t2 := 82) hG ha rfl) rfl rfl rfl (by omega)
            refine j_aload_n hx 0 dX12_sets_196 rfl ?_
            refine g13_27 hx hG ha kf_RX12_56 dX12_sets_197 ?_
            refine j_iconst hx dX12_sets_200 ?_
            refine j_bipush hx dX12_sets_201 rfl ?_
            refine j_iload_n hx 2 dX12_sets_203 rfl ?_
            refine j_imul hx (r := 120) dX12_sets_204 (by omega) ?_
            refine j_iadd hx (r := 120) dX12_sets_205 (by omega) ?_
            refine j_iload_n hx 3 dX12_sets_206 rfl ?_
            refine j_iadd hx (r := v81 + 120) dX12_sets_207 (by omega) ?_
            refine j_iload_n hx 1 dX12_sets_208 rfl ?_
            refine j_iast hx hG (zr (k := 27) (t2 := 84) hG ha rfl) (by decide) rfl (zlen hG (zr (k := 27) (t2 := 84) hG ha rfl) (n := 515) rfl rfl) (by omega) (by omega) (j := (v81 + 120).toNat) rfl dX12_sets_209 ?_
            obtain ⟨s188, e_s188⟩ : ∃ z, z = zU s187 (gP G a 27) (v81 + 120).toNat v80 := ⟨_, rfl⟩
            rw [← e_s188]
            have hS_s188 : zSK G s188 := by rw [e_s188]; exact zSK_a hS_s187 (zr (k := 27) (t2 := 84) hG ha rfl) rfl rfl (congrArg some (axS_0 (v81 + 120).toNat (by omega))) (by omega)
            have g182 : zc (s187 (gP G a 27)) = zc (s137 (gP G a 27)) := by rw [e_s187, zU_ne (zne (zr (k := 19) (t2 := 82) hG ha rfl) (zr (k := 27) (t2 := 84) hG ha rfl) (by decide))]
            have z181 : zc (s188 (gP G a 27)) = zc (s187 (gP G a 27)) := by rw [e_s188]; exact zc_o (by omega)
            refine j_aload_n hx 0 dX12_sets_210 rfl ?_
            refine g13_27 hx hG ha kf_RX12_56 dX12_sets_211 ?_
            refine j_sipush hx dX12_sets_214 rfl ?_
            refine j_iload_n hx 1 dX12_sets_217 rfl ?_
            refine j_iadd hx (r := v80 + 420) dX12_sets_218 (by omega) ?_
            refine j_iload_n hx 3 dX12_sets_219 rfl ?_
            refine j_aload_n hx 0 dX12_sets_220 rfl ?_
            refine g13_14 hx hG ha kf_RX12_35 dX12_sets_221 ?_
            refine j_iload_n hx 2 dX12_sets_224 rfl ?_
            have f183 := zaI (j := 2) hS0 (zr (k := 14) (t2 := 77) hG ha rfl) rfl (zlen hG (zr (k := 14) (t2 := 77) hG ha rfl) (n := 3) rfl rfl) (show 0 ≤ 2 by omega) (by omega) rfl
            refine j_iald hx hG (zr (k := 14) (t2 := 77) hG ha rfl) (by decide) rfl (zlen hG (zr (k := 14) (t2 := 77) hG ha rfl) (n := 3) rfl rfl) (by omega) (by omega) (j := 2) rfl (v := (s0 (gP G a 14) 2)) (by rw [e_s188, zU_at (Or.inl (zne (zr (k := 27) (t2 := 84) hG ha rfl) (zr (k := 14) (t2 := 77) hG ha rfl) (by decide))), e_s187, zU_at (Or.inl (zne (zr (k := 19) (t2 := 82) hG ha rfl) (zr (k := 14) (t2 := 77) hG ha rfl) (by decide))), (zFr_g hF_s137 (zr (k := 14) (t2 := 77) hG ha rfl) (by decide)), e_s135, zU_at (Or.inl (zne (zr (k := 27) (t2 := 84) hG ha rfl) (zr (k := 14) (t2 := 77) hG ha rfl) (by decide))), e_s130, zU_at (Or.inl (zne (zr (k := 27) (t2 := 84) hG ha rfl) (zr (k := 14) (t2 := 77) hG ha rfl) (by decide))), e_s129, zU_at (Or.inl (zne (zr (k := 18) (t2 := 81) hG ha rfl) (zr (k := 14) (t2 := 77) hG ha rfl) (by decide))), (zFr_g hF_s110 (zr (k := 14) (t2 := 77) hG ha rfl) (by decide))]) dX12_sets_225 ?_
            have c234_189 : ∀ (v184 : Int), (0 ≤ v184 ∧ v184 ≤ 1) → JJ X E 4 G s188 0 0 [(0, .ref a), (1, .int (zI v80)), (2, .int (zI 2)), (3, .int (zI v81))] 234 [.int (zI v184), .int (zI (v80 + 420)), .ref (gP G a 27)] := by
              intro v184 fA190
              refine j_iast hx hG (zr (k := 27) (t2 := 84) hG ha rfl) (by decide) rfl (zlen hG (zr (k := 27) (t2 := 84) hG ha rfl) (n := 515) rfl rfl) (by omega) (by omega) (j := (v80 + 420).toNat) rfl dX12_sets_234 ?_
              obtain ⟨s191, e_s191⟩ : ∃ z, z = zU s188 (gP G a 27) (v80 + 420).toNat v184 := ⟨_, rfl⟩
              rw [← e_s191]
              have hS_s191 : zSK G s191 := by rw [e_s191]; exact zSK_a hS_s188 (zr (k := 27) (t2 := 84) hG ha rfl) rfl rfl (congrArg some (axS_1 (v80 + 420).toNat (by omega))) (by omega)
              have z185 : zc (s191 (gP G a 27)) = zc (s188 (gP G a 27)) := by rw [e_s191]; exact zc_o (by omega)
              refine j_iinc hx 1 [(1, .int (zI (v80 + 1))), (0, .ref a), (2, .int (zI 2)), (3, .int (zI v81))] dX12_sets_235 rfl (by omega) (by decide) rfl ?_
              refine j_iinc hx 3 [(3, .int (zI (v81 + 1))), (1, .int (zI (v80 + 1))), (0, .ref a), (2, .int (zI 2))] dX12_sets_238 rfl (by omega) (by decide) rfl ?_
              refine j_goto hx 165 dX12_sets_241 rfl ?_
              have g186 : s191 (gP G a 27) 480 = s137 (gP G a 27) 480 := (by rw [e_s191, zU_at (Or.inr (by omega)), e_s188, zU_at (Or.inr (by omega)), e_s187, zU_at (Or.inl (zne (zr (k := 19) (t2 := 82) hG ha rfl) (zr (k := 27) (t2 := 84) hG ha rfl) (by decide)))])
              have g187 : s191 (gP G a 27) 481 = s137 (gP G a 27) 481 := (by rw [e_s191, zU_at (Or.inr (by omega)), e_s188, zU_at (Or.inr (by omega)), e_s187, zU_at (Or.inl (zne (zr (k := 19) (t2 := 82) hG ha rfl) (zr (k := 27) (t2 := 84) hG ha rfl) (by decide)))])
              have g188 : s191 (gP G a 27) 482 = s137 (gP G a 27) 482 := (by rw [e_s191, zU_at (Or.inr (by omega)), e_s188, zU_at (Or.inr (by omega)), e_s187, zU_at (Or.inl (zne (zr (k := 19) (t2 := 82) hG ha rfl) (zr (k := 27) (t2 := 84) hG ha rfl) (by decide)))])
              have g189 : s191 (gP G a 27) 483 = s137 (gP G a 27) 483 := (by rw [e_s191, zU_at (Or.inr (by omega)), e_s188, zU_at (Or.inr (by omega)), e_s187, zU_at (Or.inl (zne (zr (k := 19) (t2 := 82) hG ha rfl) (zr (k := 27) (t2 := 84) hG ha rfl) (by decide)))])
              have g190 : s191 (gP G a 27) 484 = s137 (gP G a 27) 484 := (by rw [e_s191, zU_at (Or.inr (by omega)), e_s188, zU_at (Or.inr (by omega)), e_s187, zU_at (Or.inl (zne (zr (k := 19) (t2 := 82) hG ha rfl) (zr (k := 27) (t2 := 84) hG ha rfl) (by decide)))])
              have g191 : s191 (gP G a 27) 485 = s137 (gP G a 27) 485 := (by rw [e_s191, zU_at (Or.inr (by omega)), e_s188, zU_at (Or.inr (by omega)), e_s187, zU_at (Or.inl (zne (zr (k := 19) (t2 := 82) hG ha rfl) (zr (k := 27) (t2 := 84) hG ha rfl) (by decide)))])
              have g192 : s191 (gP G a 27) 486 = s137 (gP G a 27) 486 := (by rw [e_s191, zU_at (Or.inr (by omega)), e_s188, zU_at (Or.inr (by omega)), e_s187, zU_at (Or.inl (zne (zr (k := 19) (t2 := 82) hG ha rfl) (zr (k := 27) (t2 := 84) hG ha rfl) (by decide)))])
              have g193 : s191 (gP G a 27) 488 = s137 (gP G a 27) 488 := (by rw [e_s191, zU_at (Or.inr (by omega)), e_s188, zU_at (Or.inr (by omega)), e_s187, zU_at (Or.inl (zne (zr (k := 19) (t2 := 82) hG ha rfl) (zr (k := 27) (t2 := 84) hG ha rfl) (by decide)))])
              exact j_sub [2, 1, 3, 0] [(0, .ref a), (1, .int (zI (v80 + 1))), (2, .int (zI 2)), (3, .int (zI (v81 + 1)))] rfl (ih_c165_136 (v80 + 1) (v81 + 1) s191 (by omega) (by omega) (by omega) hS_s191 (zFr_u (zFr_u (zFr_u (zFr_t zFr_rf hF_s137 (by decide)) e_s187 (zr (k := 19) (t2 := 82) hG ha rfl) (by decide)) e_s188 (zr (k := 27) (t2 := 84) hG ha rfl) (by decide)) e_s191 (zr (k := 27) (t2 := 84) hG ha rfl) (by decide)) (by omega) (by omega) (by omega) (by omega) (by omega) (by omega) (by omega) (by omega) (by omega) (by omega) (by omega))
            refine j_icmp_ge hx 233 dX12_sets_226 rfl (by omega) (by omega) (fun h194 => ?_) (fun h194 => ?_)
            · skip
              refine j_iconst hx dX12_sets_233 ?_
              exact j_sub [0, 1, 2, 3] [(0, .ref a), (1, .int (zI v80)), (2, .int (zI 2)), (3, .int (zI v81))] rfl (c234_189 0 (by omega))
            · skip
              refine j_iconst hx dX12_sets_229 ?_
              refine j_goto hx 234 dX12_sets_230 rfl ?_
              exact j_sub [0, 1, 2, 3] [(0, .ref a), (1, .int (zI v80)), (2, .int (zI 2)), (3, .int (zI v81))] rfl (c234_189 1 (by omega))
      exact j_sub [1, 2, 3, 0] [(0, .ref a), (1, .int (zI v66)), (2, .int (zI 2)), (3, .int (zI 0))] rfl (c165_136 (2147483648 * 4) v66 0 s135 (by omega) (by omega) (by omega) hS_s135 zFr_rf (by omega) (by omega) (by omega) (by omega) (by omega) (by omega) (by omega) (by omega) (by omega) (by omega) (by omega))
    refine j_icmp_ge hx 161 dX12_sets_149 rfl ⟨by decide, by decide⟩ (by omega) (fun h195 => ?_) (fun h195 => ?_)
    · skip
      refine j_iconst hx dX12_sets_161 ?_
      exact j_sub [0, 1, 2] [(0, .ref a), (1, .int (zI v66)), (2, .int (zI 2))] rfl (c162_131 0 (by omega) (by omega) (by omega))
    · skip
      refine j_aload_n hx 0 dX12_sets_152 rfl ?_
      refine g13_13 hx hG ha kf_RX12_32 dX12_sets_153 ?_
      refine j_iload_n hx 2 dX12_sets_156 rfl ?_
      have f196 := zaI (j := 2) hS0 (zr (k := 13) (t2 := 76) hG ha rfl) rfl (zlen hG (zr (k := 13) (t2 := 76) hG ha rfl) (n := 3) rfl rfl) (show 0 ≤ 2 by omega) (by omega) rfl
      refine j_iald hx hG (zr (k := 13) (t2 := 76) hG ha rfl) (by decide) rfl (zlen hG (zr (k := 13) (t2 := 76) hG ha rfl) (n := 3) rfl rfl) (by omega) (by omega) (j := 2) rfl (v := (s0 (gP G a 13) 2)) (by rw [e_s130, zU_at (Or.inl (zne (zr (k := 27) (t2 := 84) hG ha rfl) (zr (k := 13) (t2 := 76) hG ha rfl) (by decide))), e_s129, zU_at (Or.inl (zne (zr (k := 18) (t2 := 81) hG ha rfl) (zr (k := 13) (t2 := 76) hG ha rfl) (by decide))), (zFr_g hF_s110 (zr (k := 13) (t2 := 76) hG ha rfl) (by decide))]) dX12_sets_157 ?_
      refine j_goto hx 162 dX12_sets_158 rfl ?_
      exact j_sub [0, 1, 2] [(0, .ref a), (1, .int (zI v66)), (2, .int (zI 2))] rfl (c162_131 ((s0 (gP G a 13) 2)) (by omega) (by omega) (by omega))
  have x102_65 : ∀ (v40 : Int) (s66 : zS), (0 ≤ v40 ∧ v40 ≤ 60) → (zSK G s66) → (zFr [13, 80, 81, 82, 83, 84, 85, 87, 91, 94] G s0 s66) → (s66 a 0 = s0 a 0) → (s66 a 3 = s0 a 3) → (s66 a 4 = s0 a 4) → (s66 a 5 = s0 a 5) → (s66 a 7 = s0 a 7) → (s66 a 21 = s0 a 21) → (s66 a 22 = s0 a 22) → (s66 a 23 = s0 a 23) → (s66 a 38 = s0 a 38) → (s66 a 51 = s0 a 51) → (s66 a 52 = s0 a 52) → (zQn (s66 (gP G a 17)) (s66 a 24)) → (zc (s66 (gP G a 27)) ≤ v40) → (s66 a 24 = s0 a 21) → (v40 ≤ s0 (gP G a 13) 0 ∧ s66 (gP G a 27) 481 = 0 ∧ s66 (gP G a 27) 482 = 0 ∧ s66 (gP G a 27) 488 = 0) → JJ X E 4 G s66 0 0 [(0, .ref a), (1, .int (zI v40)), (2, .int (zI 1))] 102 [] := by
    intro v40 s66 fA67 hS_s66 hF_s66 fA70 fA71 fA72 fA73 fA74 fA75 fA76 fA77 fA78 fA79 fA80 fA81 fA82 fA83 fA84
    have f41 := zaI (j := 0) hS0 (zr (k := 13) (t2 := 76) hG ha rfl) rfl (zlen hG (zr (k := 13) (t2 := 76) hG ha rfl) (n := 3) rfl rfl) (show (0 : Int) ≤ 0 by decide) (by decide) rfl
    have f42 := zaI (j := 1) hS0 (zr (k := 13) (t2 := 76) hG ha rfl) rfl (zlen hG (zr (k := 13) (t2 := 76) hG ha rfl) (n := 3) rfl rfl) (show (0 : Int) ≤ 1 by decide) (by decide) rfl
    have f43 := zaI (j := 2) hS0 (zr (k := 13) (t2 := 76) hG ha rfl) rfl (zlen hG (zr (k := 13) (t2 := 76) hG ha rfl) (n := 3) rfl rfl) (show (0 : Int) ≤ 2 by decide) (by decide) rfl
    refine j_iload_n hx 2 dX12_sets_102 rfl ?_
    refine j_iconst hx dX12_sets_103 ?_
    refine j_icmp_ge hx 250 dX12_sets_104 rfl ⟨by decide, by decide⟩ ⟨by decide, by decide⟩ (fun h44 => absurd h44 (by omega)) (fun h44 => ?_)
    refine j_aload_n hx 0 dX12_sets_107 rfl ?_
    refine g13_18 hx hG ha kf_RX12_47 dX12_sets_108 ?_
    refine j_iload_n hx 2 dX12_sets_111 rfl ?_
    refine j_aload_n hx 0 dX12_sets_112 rfl ?_
    refine g13_11 hx hG ha kf_RX12_26 dX12_sets_113 ?_
    refine j_iload_n hx 2 dX12_sets_116 rfl ?_
    have f45 := zaI (j := 1) hS0 (zr (k := 11) (t2 := 74) hG ha rfl) rfl (zlen hG (zr (k := 11) (t2 := 74) hG ha rfl) (n := 3) rfl rfl) (show 0 ≤ 1 by omega) (by omega) rfl
    refine j_iald hx hG (zr (k := 11) (t2 := 74) hG ha rfl) (by decide) rfl (zlen hG (zr (k := 11) (t2 := 74) hG ha rfl) (n := 3) rfl rfl) (by omega) (by omega) (j := 1) rfl (v := (s0 (gP G a 11) 1)) (by rw [(zFr_g hF_s66 (zr (k := 11) (t2 := 74) hG ha rfl) (by decide))]) dX12_sets_117 ?_
    refine j_iast hx hG (zr (k := 18) (t2 := 81) hG ha rfl) (by decide) rfl (zlen hG (zr (k := 18) (t2 := 81) hG ha rfl) (n := 3) rfl rfl) (by omega) (by omega) (j := 1) rfl dX12_sets_118 ?_
    obtain ⟨s85, e_s85⟩ : ∃ z, z = zU s66 (gP G a 18) 1 ((s0 (gP G a 11) 1)) := ⟨_, rfl⟩
    rw [← e_s85]
    have hS_s85 : zSK G s85 := by rw [e_s85]; exact zSK_A hS_s66 (zr (k := 18) (t2 := 81) hG ha rfl) rfl rfl rfl (by omega)
    refine j_aload_n hx 0 dX12_sets_119 rfl ?_
    refine g13_27 hx hG ha kf_RX12_56 dX12_sets_120 ?_
    refine j_sipush hx dX12_sets_123 rfl ?_
    refine j_iload_n hx 2 dX12_sets_126 rfl ?_
    refine j_iadd hx (r := 492) dX12_sets_127 (by omega) ?_
    refine j_aload_n hx 0 dX12_sets_128 rfl ?_
    refine g13_15 hx hG ha kf_RX12_38 dX12_sets_129 ?_
    refine j_iload_n hx 2 dX12_sets_132 rfl ?_
    have f46 := zaI (j := 1) hS0 (zr (k := 15) (t2 := 78) hG ha rfl) rfl (zlen hG (zr (k := 15) (t2 := 78) hG ha rfl) (n := 3) rfl rfl) (show 0 ≤ 1 by omega) (by omega) rfl
    refine j_iald hx hG (zr (k := 15) (t2 := 78) hG ha rfl) (by decide) rfl (zlen hG (zr (k := 15) (t2 := 78) hG ha rfl) (n := 3) rfl rfl) (by omega) (by omega) (j := 1) rfl (v := (s0 (gP G a 15) 1)) (by rw [e_s85, zU_at (Or.inl (zne (zr (k := 18) (t2 := 81) hG ha rfl) (zr (k := 15) (t2 := 78) hG ha rfl) (by decide))), (zFr_g hF_s66 (zr (k := 15) (t2 := 78) hG ha rfl) (by decide))]) dX12_sets_133 ?_
    refine j_iast hx hG (zr (k := 27) (t2 := 84) hG ha rfl) (by decide) rfl (zlen hG (zr (k := 27) (t2 := 84) hG ha rfl) (n := 515) rfl rfl) (by omega) (by omega) (j := 492) rfl dX12_sets_134 ?_
    obtain ⟨s86, e_s86⟩ : ∃ z, z = zU s85 (gP G a 27) 492 ((s0 (gP G a 15) 1)) := ⟨_, rfl⟩
    rw [← e_s86]
    have hS_s86 : zSK G s86 := by rw [e_s86]; exact zSK_a hS_s85 (zr (k := 27) (t2 := 84) hG ha rfl) rfl rfl (congrArg some (axS_7 492 (by omega))) (by omega)
    have g48 : zc (s85 (gP G a 27)) = zc (s66 (gP G a 27)) := by rw [e_s85, zU_ne (zne (zr (k := 18) (t2 := 81) hG ha rfl) (zr (k := 27) (t2 := 84) hG ha rfl) (by decide))]
    have z47 : zc (s86 (gP G a 27)) = zc (s85 (gP G a 27)) := by rw [e_s86]; exact zc_o (by omega)
    refine j_aload_n hx 0 dX12_sets_135 rfl ?_
    refine g13_27 hx hG ha kf_RX12_56 dX12_sets_136 ?_
    refine j_sipush hx dX12_sets_139 rfl ?_
    refine j_iload_n hx 2 dX12_sets_142 rfl ?_
    refine j_iadd hx (r := 481) dX12_sets_143 (by omega) ?_
    refine j_iload_n hx 2 dX12_sets_144 rfl ?_
    refine j_aload_n hx 0 dX12_sets_145 rfl ?_
    have f49 := zf hS_s66 ha (k := 21) rfl
    refine g13_21 hx hG ha kf_RX12_180 (v := (s66 a 21)) (by rw [e_s86, zU_at (Or.inl (zne (zr (k := 27) (t2 := 84) hG ha rfl) ha (by decide))), e_s85, zU_at (Or.inl (zne (zr (k := 18) (t2 := 81) hG ha rfl) ha (by decide)))]) dX12_sets_146 ?_
    have c162_87 : ∀ (v50 : Int), (0 ≤ v50 ∧ v50 ≤ 60) → (0 ≤ v50 ∧ v50 ≤ 60) → (v50 ≤ s0 (gP G a 13) 1) → JJ X E 4 G s86 0 0 [(0, .ref a), (1, .int (zI v40)), (2, .int (zI 1))] 162 [.int (zI v50), .int (zI 481), .ref (gP G a 27)] := by
      intro v50 fA88 fA89 fA90
      refine j_iast hx hG (zr (k := 27) (t2 := 84) hG ha rfl) (by decide) rfl (zlen hG (zr (k := 27) (t2 := 84) hG ha rfl) (n := 515) rfl rfl) (by omega) (by omega) (j := 481) rfl dX12_sets_162 ?_
      obtain ⟨s91, e_s91⟩ : ∃ z, z = zU s86 (gP G a 27) 481 v50 := ⟨_, rfl⟩
      rw [← e_s91]
      have hS_s91 : zSK G s91 := by rw [e_s91]; exact zSK_a hS_s86 (zr (k := 27) (t2 := 84) hG ha rfl) rfl rfl (congrArg some (axS_2 481 (by omega))) (by omega)
      have g52 : s86 (gP G a 27) 481 = s66 (gP G a 27) 481 := (by rw [e_s86, zU_at (Or.inr (by decide)), e_s85, zU_at (Or.inl (zne (zr (k := 18) (t2 := 81) hG ha rfl) (zr (k := 27) (t2 := 84) hG ha rfl) (by decide)))])
      have g53 : s91 (gP G a 27) 481 = v50 := (by rw [e_s91, zU_eq])
      have z51 : zc (s91 (gP G a 27)) = zc (s86 (gP G a 27)) - s86 (gP G a 27) 481 + s91 (gP G a 27) 481 := by rw [e_s91, zU_eq]; exact zc_w (by omega) (by omega)
      refine j_iconst hx dX12_sets_163 ?_
      refine j_istore_n hx [(3, .int (zI 0)), (0, .ref a), (1, .int (zI v40)), (2, .int (zI 1))] dX12_sets_164 (by decide) rfl ?_
      have g56 : s91 (gP G a 27) 480 = s66 (gP G a 27) 480 := (by rw [e_s91, zU_at (Or.inr (by decide)), e_s86, zU_at (Or.inr (by decide)), e_s85, zU_at (Or.inl (zne (zr (k := 18) (t2 := 81) hG ha rfl) (zr (k := 27) (t2 := 84) hG ha rfl) (by decide)))])
      have g57 : s91 (gP G a 27) 482 = s66 (gP G a 27) 482 := (by rw [e_s91, zU_at (Or.inr (by decide)), e_s86, zU_at (Or.inr (by decide)), e_s85, zU_at (Or.inl (zne (zr (k := 18) (t2 := 81) hG ha rfl) (zr (k := 27) (t2 := 84) hG ha rfl) (by decide)))])
      have g58 : s91 (gP G a 27) 483 = s66 (gP G a 27) 483 := (by rw [e_s91, zU_at (Or.inr (by decide)), e_s86, zU_at (Or.inr (by decide)), e_s85, zU_at (Or.inl (zne (zr (k := 18) (t2 := 81) hG ha rfl) (zr (k := 27) (t2 := 84) hG ha rfl) (by decide)))])
      have g59 : s91 (gP G a 27) 484 = s66 (gP G a 27) 484 := (by rw [e_s91, zU_at (Or.inr (by decide)), e_s86, zU_at (Or.inr (by decide)), e_s85, zU_at (Or.inl (zne (zr (k := 18) (t2 := 81) hG ha rfl) (zr (k := 27) (t2 := 84) hG ha rfl) (by decide)))])
      have g60 : s91 (gP G a 27) 485 = s66 (gP G a 27) 485 := (by rw [e_s91, zU_at (Or.inr (by decide)), e_s86, zU_at (Or.inr (by decide)), e_s85, zU_at (Or.inl (zne (zr (k := 18) (t2 := 81) hG ha rfl) (zr (k := 27) (t2 := 84) hG ha rfl) (by decide)))])
      have g61 : s91 (gP G a 27) 486 = s66 (gP G a 27) 486 := (by rw [e_s91, zU_at (Or.inr (by decide)), e_s86, zU_at (Or.inr (by decide)), e_s85, zU_at (Or.inl (zne (zr (k := 18) (t2 := 81) hG ha rfl) (zr (k := 27) (t2 := 84) hG ha rfl) (by decide)))])
      have g62 : s91 (gP G a 27) 488 = s66 (gP G a 27) 488 := (by rw [e_s91, zU_at (Or.inr (by decide)), e_s86, zU_at (Or.inr (by decide)), e_s85, zU_at (Or.inl (zne (zr (k := 18) (t2 := 81) hG ha rfl) (zr (k := 27) (t2 := 84) hG ha rfl) (by decide)))])
      have c165_92 : ∀ (m_c165_92 : Nat) (v54 : Int) (v55 : Int) (s93 : zS), 2147483648 - v55 < m_c165_92 → (0 ≤ v54 ∧ v54 ≤ 60) → (0 ≤ v55 ∧ v55 ≤ 60) → (zSK G s93) → (zFr [82, 84] G s91 s93) → (zc (s93 (gP G a 27)) = zc (s91 (gP G a 27))) → (v54 = v40 + v55) → (s93 (gP G a 27) 480 = s91 (gP G a 27) 480) → (s93 (gP G a 27) 481 = s91 (gP G a 27) 481) → (s93 (gP G a 27) 482 = s91 (gP G a 27) 482) → (s93 (gP G a 27) 483 = s91 (gP G a 27) 483) → (s93 (gP G a 27) 484 = s91 (gP G a 27) 484) → (s93 (gP G a 27) 485 = s91 (gP G a 27) 485) → (s93 (gP G a 27) 486 = s91 (gP G a 27) 486) → (s93 (gP G a 27) 488 = s91 (gP G a 27) 488) → (v55 ≤ s93 (gP G a 27) 481) → JJ X E 4 G s93 0 0 [(0, .ref a), (1, .int (zI v54)), (2, .int (zI 1)), (3, .int (zI v55))] 165 [] := by
        intro m_c165_92
        induction m_c165_92 with
        | zero => intro v54 v55 s93 hm_c165_92 fA94 fA95 hS_s93 hF_s93 fA98 fA99 fA100 fA101 fA102 fA103 fA104 fA105 fA106 fA107 fA108; exfalso; omega
        | succ m_c165_92 ih_c165_92 => 
          intro v54 v55 s93 hm_c165_92 fA94 fA95 hS_s93 hF_s93 fA98 fA99 fA100 fA101 fA102 fA103 fA104 fA105 fA106 fA107 fA108
          refine j_iload_n hx 3 dX12_sets_165 rfl ?_
          refine j_aload_n hx 0 dX12_sets_166 rfl ?_
          refine g13_27 hx hG ha kf_RX12_56 dX12_sets_167 ?_
          refine j_sipush hx dX12_sets_170 rfl ?_
          refine j_iload_n hx 2 dX12_sets_173 rfl ?_
          refine j_iadd hx (r := 481) dX12_sets_174 (by omega) ?_
          have f63 := zaQ (j := 481) hS_s93 (zr (k := 27) (t2 := 84) hG ha rfl) (congrArg some (axS_2 481 (by omega))) (zlen hG (zr (k := 27) (t2 := 84) hG ha rfl) (n := 515) rfl rfl) (show 0 ≤ 481 by omega) (by omega) rfl
          have c64 := zc_1 (j := 481) hS_s93 (zr (k := 27) (t2 := 84) hG ha rfl) (zn hG (zr (k := 27) (t2 := 84) hG ha rfl) rfl) (by omega) (by omega)
          refine j_iald hx hG (zr (k := 27) (t2 := 84) hG ha rfl) (by decide) rfl (zlen hG (zr (k := 27) (t2 := 84) hG ha rfl) (n := 515) rfl rfl) (by omega) (by omega) (j := 481) rfl rfl dX12_sets_175 ?_
          refine j_icmp_ge hx 244 dX12_sets_176 rfl (by omega) (by omega) (fun h65 => ?_) (fun h65 => ?_)
          · skip
            refine j_iinc hx 2 [(2, .int (zI 2)), (0, .ref a), (1, .int (zI v54)), (3, .int (zI v55))] dX12_sets_244 rfl (by omega) (by decide) rfl ?_
            refine j_goto hx 102 dX12_sets_247 rfl ?_
            have g197 : s93 a 0 = s66 a 0 := (by rw [(zFr_g hF_s93 ha (by decide)), e_s91, zU_at (Or.inl (zne (zr (k := 27) (t2 := 84) hG ha rfl) ha (by decide))), e_s86, zU_at (Or.inl (zne (zr (k := 27) (t2 := 84) hG ha rfl) ha (by decide))), e_s85, zU_at (Or.inl (zne (zr (k := 18) (t2 := 81) hG ha rfl) ha (by decide)))])
            have f198 := zf hS_s66 ha (k := 0) rfl
            have g199 : s93 a 3 = s66 a 3 := (by rw [(zFr_g hF_s93 ha (by decide)), e_s91, zU_at (Or.inl (zne (zr (k := 27) (t2 := 84) hG ha rfl) ha (by decide))), e_s86, zU_at (Or.inl (zne (zr (k := 27) (t2 := 84) hG ha rfl) ha (by decide))), e_s85, zU_at (Or.inl (zne (zr (k := 18) (t2 := 81) hG ha rfl) ha (by decide)))])
            have f200 := zf hS_s66 ha (k := 3) rfl
            have g201 : s93 a 4 = s66 a 4 := (by rw [(zFr_g hF_s93 ha (by decide)), e_s91, zU_at (Or.inl (zne (zr (k := 27) (t2 := 84) hG ha rfl) ha (by decide))), e_s86, zU_at (Or.inl (zne (zr (k := 27) (t2 := 84) hG ha rfl) ha (by decide))), e_s85, zU_at (Or.inl (zne (zr (k := 18) (t2 := 81) hG ha rfl) ha (by decide)))])
            have f202 := zf hS_s66 ha (k := 4) rfl
            have g203 : s93 a 5 = s66 a 5 := (by rw [(zFr_g hF_s93 ha (by decide)), e_s91, zU_at (Or.inl (zne (zr (k := 27) (t2 := 84) hG ha rfl) ha (by decide))), e_s86, zU_at (Or.inl (zne (zr (k := 27) (t2 := 84) hG ha rfl) ha (by decide))), e_s85, zU_at (Or.inl (zne (zr (k := 18) (t2 := 81) hG ha rfl) ha (by decide)))])
            have f204 := zf hS_s66 ha (k := 5) rfl
            have g205 : s93 a 7 = s66 a 7 := (by rw [(zFr_g hF_s93 ha (by decide)), e_s91, zU_at (Or.inl (zne (zr (k := 27) (t2 := 84) hG ha rfl) ha (by decide))), e_s86, zU_at (Or.inl (zne (zr (k := 27) (t2 := 84) hG ha rfl) ha (by decide))), e_s85, zU_at (Or.inl (zne (zr (k := 18) (t2 := 81) hG ha rfl) ha (by decide)))])
            have f206 := zf hS_s66 ha (k := 7) rfl
            have g207 : s93 a 21 = s66 a 21 := (by rw [(zFr_g hF_s93 ha (by decide)), e_s91, zU_at (Or.inl (zne (zr (k := 27) (t2 := 84) hG ha rfl) ha (by decide))), e_s86, zU_at (Or.inl (zne (zr (k := 27) (t2 := 84) hG ha rfl) ha (by decide))), e_s85, zU_at (Or.inl (zne (zr (k := 18) (t2 := 81) hG ha rfl) ha (by decide)))])
            have g208 : s93 a 22 = s66 a 22 := (by rw [(zFr_g hF_s93 ha (by decide)), e_s91, zU_at (Or.inl (zne (zr (k := 27) (t2 := 84) hG ha rfl) ha (by decide))), e_s86, zU_at (Or.inl (zne (zr (k := 27) (t2 := 84) hG ha rfl) ha (by decide))), e_s85, zU_at (Or.inl (zne (zr (k := 18) (t2 := 81) hG ha rfl) ha (by decide)))])
            have f209 := zf hS_s66 ha (k := 22) rfl
            have g210 : s93 a 23 = s66 a 23 := (by rw [(zFr_g hF_s93 ha (by decide)), e_s91, zU_at (Or.inl (zne (zr (k := 27) (t2 := 84) hG ha rfl) ha (by decide))), e_s86, zU_at (Or.inl (zne (zr (k := 27) (t2 := 84) hG ha rfl) ha (by decide))), e_s85, zU_at (Or.inl (zne (zr (k := 18) (t2 := 81) hG ha rfl) ha (by decide)))])
            have f211 := zf hS_s66 ha (k := 23) rfl
            have g212 : s93 a 38 = s66 a 38 := (by rw [(zFr_g hF_s93 ha (by decide)), e_s91, zU_at (Or.inl (zne (zr (k := 27) (t2 := 84) hG ha rfl) ha (by decide))), e_s86, zU_at (Or.inl (zne (zr (k := 27) (t2 := 84) hG ha rfl) ha (by decide))), e_s85, zU_at (Or.inl (zne (zr (k := 18) (t2 := 81) hG ha rfl) ha (by decide)))])
            have f213 := zf hS_s66 ha (k := 38) rfl
            have g214 : s93 a 51 = s66 a 51 := (by rw [(zFr_g hF_s93 ha (by decide)), e_s91, zU_at (Or.inl (zne (zr (k := 27) (t2 := 84) hG ha rfl) ha (by decide))), e_s86, zU_at (Or.inl (zne (zr (k := 27) (t2 := 84) hG ha rfl) ha (by decide))), e_s85, zU_at (Or.inl (zne (zr (k := 18) (t2 := 81) hG ha rfl) ha (by decide)))])
            have f215 := zf hS_s66 ha (k := 51) rfl
            have g216 : s93 a 52 = s66 a 52 := (by rw [(zFr_g hF_s93 ha (by decide)), e_s91, zU_at (Or.inl (zne (zr (k := 27) (t2 := 84) hG ha rfl) ha (by decide))), e_s86, zU_at (Or.inl (zne (zr (k := 27) (t2 := 84) hG ha rfl) ha (by decide))), e_s85, zU_at (Or.inl (zne (zr (k := 18) (t2 := 81) hG ha rfl) ha (by decide)))])
            have f217 := zf hS_s66 ha (k := 52) rfl
            have g218 : s93 a 24 = s66 a 24 := (by rw [(zFr_g hF_s93 ha (by decide)), e_s91, zU_at (Or.inl (zne (zr (k := 27) (t2 := 84) hG ha rfl) ha (by decide))), e_s86, zU_at (Or.inl (zne (zr (k := 27) (t2 := 84) hG ha rfl) ha (by decide))), e_s85, zU_at (Or.inl (zne (zr (k := 18) (t2 := 81) hG ha rfl) ha (by decide)))])
            have f219 := zf hS_s66 ha (k := 24) rfl
            exact j_sub [1, 2, 0] [(0, .ref a), (1, .int (zI v54)), (2, .int (zI 2))] rfl (x102_109 v54 s93 (by omega) hS_s93 (zFr_t (zFr_u (zFr_u (zFr_u (zFr_t zFr_rf hF_s66 (by decide)) e_s85 (zr (k := 18) (t2 := 81) hG ha rfl) (by decide)) e_s86 (zr (k := 27) (t2 := 84) hG ha rfl) (by decide)) e_s91 (zr (k := 27) (t2 := 84) hG ha rfl) (by decide)) hF_s93 (by decide)) (by omega) (by omega) (by omega) (by omega) (by omega) (by omega) (by omega) (by omega) (by omega) (by omega) (by omega) (by have q1 : s93 (gP G a 17) = s66 (gP G a 17) := (by rw [hF_s93 (gP G a 17) (by rw [(zr (k := 17) (t2 := 80) hG ha rfl)]; decide), e_s91, zU_ne (zne (zr (k := 27) (t2 := 84) hG ha rfl) (zr (k := 17) (t2 := 80) hG ha rfl) (by decide)), e_s86, zU_ne (zne (zr (k := 27) (t2 := 84) hG ha rfl) (zr (k := 17) (t2 := 80) hG ha rfl) (by decide)), e_s85, zU_ne (zne (zr (k := 18) (t2 := 81) hG ha rfl) (zr (k := 17) (t2 := 80) hG ha rfl) (by decide))]); rw [q1]; exact (zQn_nn fA81 (by omega))) (by omega) (by omega) (by omega))
          · skip
            refine j_aload_n hx 0 dX12_sets_179 rfl ?_
            refine g13_19 hx hG ha kf_RX12_50 dX12_sets_180 ?_
            refine j_iload_n hx 1 dX12_sets_183 rfl ?_
            refine j_aload_n hx 0 dX12_sets_184 rfl ?_
            refine g13_12 hx hG ha kf_RX12_29 dX12_sets_185 ?_
            refine j_bipush hx dX12_sets_188 rfl ?_
            refine j_iload_n hx 2 dX12_sets_190 rfl ?_
            refine j_imul hx (r := 60) dX12_sets_191 (by omega) ?_
            refine j_iload_n hx 3 dX12_sets_192 rfl ?_
            refine j_iadd hx (r := v55 + 60) dX12_sets_193 (by omega) ?_
            have f220 := zaI (j := (v55 + 60).toNat) hS0 (zr (k := 12) (t2 := 75) hG ha rfl) rfl (zlen hG (zr (k := 12) (t2 := 75) hG ha rfl) (n := 180) rfl rfl) (show 0 ≤ v55 + 60 by omega) (by omega) rfl
            refine j_iald hx hG (zr (k := 12) (t2 := 75) hG ha rfl) (by decide) rfl (zlen hG (zr (k := 12) (t2 := 75) hG ha rfl) (n := 180) rfl rfl) (by omega) (by omega) (j := (v55 + 60).toNat) rfl (v := (s0 (gP G a 12) (v55 + 60).toNat)) (by rw [(zFr_g hF_s93 (zr (k := 12) (t2 := 75) hG ha rfl) (by decide)), e_s91, zU_at (Or.inl (zne (zr (k := 27) (t2 := 84) hG ha rfl) (zr (k := 12) (t2 := 75) hG ha rfl) (by decide))), e_s86, zU_at (Or.inl (zne (zr (k := 27) (t2 := 84) hG ha rfl) (zr (k := 12) (t2 := 75) hG ha rfl) (by decide))), e_s85, zU_at (Or.inl (zne (zr (k := 18) (t2 := 81) hG ha rfl) (zr (k := 12) (t2 := 75) hG ha rfl) (by decide))), (zFr_g hF_s66 (zr (k := 12) (t2 := 75) hG ha rfl) (by decide))]) dX12_sets_194 ?_
            refine j_iast hx hG (zr (k := 19) (t2 := 82) hG ha rfl) (by decide) rfl (zlen hG (zr (k := 19) (t2 := 82) hG ha rfl) (n := 60) rfl rfl) (by omega) (by omega) (j := (v54).toNat) rfl dX12_sets_195 ?_
            obtain ⟨s192, e_s192⟩ : ∃ z, z = zU s93 (gP G a 19) (v54).toNat ((s0 (gP G a 12) (v55 + 60).toNat)) := ⟨_, rfl⟩
            rw [← e_s192]
            have hS_s192 : zSK G s192 := by rw [e_s192]; exact zSK_A hS_s93 (zr (k := 19) (t2 := 82) hG ha rfl) rfl rfl rfl (by omega)
            refine j_aload_n hx 0 dX12_sets_196 rfl ?_
            refine g13_27 hx hG ha kf_RX12_56 dX12_sets_197 ?_
            refine j_iconst hx dX12_sets_200 ?_
            refine j_bipush hx dX12_sets_201 rfl ?_
            refine j_iload_n hx 2 dX12_sets_203 rfl ?_
            refine j_imul hx (r := 60) dX12_sets_204 (by omega) ?_
            refine j_iadd hx (r := 60) dX12_sets_205 (by omega) ?_
            refine j_iload_n hx 3 dX12_sets_206 rfl ?_
            refine j_iadd hx (r := v55 + 60) dX12_sets_207 (by omega) ?_
            refine j_iload_n hx 1 dX12_sets_208 rfl ?_
            refine j_iast hx hG (zr (k := 27) (t2 := 84) hG ha rfl) (by decide) rfl (zlen hG (zr (k := 27) (t2 := 84) hG ha rfl) (n := 515) rfl rfl) (by omega) (by omega) (j := (v55 + 60).toNat) rfl dX12_sets_209 ?_
            obtain ⟨s193, e_s193⟩ : ∃ z, z = zU s192 (gP G a 27) (v55 + 60).toNat v54 := ⟨_, rfl⟩
            rw [← e_s193]
            have hS_s193 : zSK G s193 := by rw [e_s193]; exact zSK_a hS_s192 (zr (k := 27) (t2 := 84) hG ha rfl) rfl rfl (congrArg some (axS_0 (v55 + 60).toNat (by omega))) (by omega)
            have g222 : zc (s192 (gP G a 27)) = zc (s93 (gP G a 27)) := by rw [e_s192, zU_ne (zne (zr (k := 19) (t2 := 82) hG ha rfl) (zr (k := 27) (t2 := 84) hG ha rfl) (by decide))]
            have z221 : zc (s193 (gP G a 27)) = zc (s192 (gP G a 27)) := by rw [e_s193]; exact zc_o (by omega)
            refine j_aload_n hx 0 dX12_sets_210 rfl ?_
            refine g13_27 hx hG ha kf_RX12_56 dX12_sets_211 ?_
            refine j_sipush hx dX12_sets_214 rfl ?_
            refine j_iload_n hx 1 dX12_sets_217 rfl ?_
            refine j_iadd hx (r := v54 + 420) dX12_sets_218 (by omega) ?_
            refine j_iload_n hx 3 dX12_sets_219 rfl ?_
            refine j_aload_n hx 0 dX12_sets_220 rfl ?_
            refine g13_14 hx hG ha kf_RX12_35 dX12_sets_221 ?_
            refine j_iload_n hx 2 dX12_sets_224 rfl ?_
            have f223 := zaI (j := 1) hS0 (zr (k := 14) (t2 := 77) hG ha rfl) rfl (zlen hG (zr (k := 14) (t2 := 77) hG ha rfl) (n := 3) rfl rfl) (show 0 ≤ 1 by omega) (by omega) rfl
            refine j_iald hx hG (zr (k := 14) (t2 := 77) hG ha rfl) (by decide) rfl (zlen hG (zr (k := 14) (t2 := 77) hG ha rfl) (n := 3) rfl rfl) (by omega) (by omega) (j := 1) rfl (v := (s0 (gP G a 14) 1)) (by rw [e_s193, zU_at (Or.inl (zne (zr (k := 27) (t2 := 84) hG ha rfl) (zr (k := 14) (t2 := 77) hG ha rfl) (by decide))), e_s192, zU_at (Or.inl (zne (zr (k := 19) (t2 := 82) hG ha rfl) (zr (k := 14) (t2 := 77) hG ha rfl) (by decide))), (zFr_g hF_s93 (zr (k := 14) (t2 := 77) hG ha rfl) (by decide)), e_s91, zU_at (Or.inl (zne (zr (k := 27) (t2 := 84) hG ha rfl) (zr (k := 14) (t2 := 77) hG ha rfl) (by decide))), e_s86, zU_at (Or.inl (zne (zr (k := 27) (t2 := 84) hG ha rfl) (zr (k := 14) (t2 := 77) hG ha rfl) (by decide))), e_s85, zU_at (Or.inl (zne (zr (k := 18) (t2 := 81) hG ha rfl) (zr (k := 14) (t2 := 77) hG ha rfl) (by decide))), (zFr_g hF_s66 (zr (k := 14) (t2 := 77) hG ha rfl) (by decide))]) dX12_sets_225 ?_
            have c234_194 : ∀ (v224 : Int), (0 ≤ v224 ∧ v224 ≤ 1) → JJ X E 4 G s193 0 0 [(0, .ref a), (1, .int (zI v54)), (2, .int (zI 1)), (3, .int (zI v55))] 234 [.int (zI v224), .int (zI (v54 + 420)), .ref (gP G a 27)] := by
              intro v224 fA195
              refine j_iast hx hG (zr (k := 27) (t2 := 84) hG ha rfl) (by decide) rfl (zlen hG (zr (k := 27) (t2 := 84) hG ha rfl) (n := 515) rfl rfl) (by omega) (by omega) (j := (v54 + 420).toNat) rfl dX12_sets_234 ?_
              obtain ⟨s196, e_s196⟩ : ∃ z, z = zU s193 (gP G a 27) (v54 + 420).toNat v224 := ⟨_, rfl⟩
              rw [← e_s196]
              have hS_s196 : zSK G s196 := by rw [e_s196]; exact zSK_a hS_s193 (zr (k := 27) (t2 := 84) hG ha rfl) rfl rfl (congrArg some (axS_1 (v54 + 420).toNat (by omega))) (by omega)
              have z225 : zc (s196 (gP G a 27)) = zc (s193 (gP G a 27)) := by rw [e_s196]; exact zc_o (by omega)
              refine j_iinc hx 1 [(1, .int (zI (v54 + 1))), (0, .ref a), (2, .int (zI 1)), (3, .int (zI v55))] dX12_sets_235 rfl (by omega) (by decide) rfl ?_
              refine j_iinc hx 3 [(3, .int (zI (v55 + 1))), (1, .int (zI (v54 + 1))), (0, .ref a), (2, .int (zI 1))] dX12_sets_238 rfl (by omega) (by decide) rfl ?_
              refine j_goto hx 165 dX12_sets_241 rfl ?_
              have g226 : s196 (gP G a 27) 480 = s93 (gP G a 27) 480 := (by rw [e_s196, zU_at (Or.inr (by omega)), e_s193, zU_at (Or.inr (by omega)), e_s192, zU_at (Or.inl (zne (zr (k := 19) (t2 := 82) hG ha rfl) (zr (k := 27) (t2 := 84) hG ha rfl) (by decide)))])
              have g227 : s196 (gP G a 27) 481 = s93 (gP G a 27) 481 := (by rw [e_s196, zU_at (Or.inr (by omega)), e_s193, zU_at (Or.inr (by omega)), e_s192, zU_at (Or.inl (zne (zr (k := 19) (t2 := 82) hG ha rfl) (zr (k := 27) (t2 := 84) hG ha rfl) (by decide)))])
              have g228 : s196 (gP G a 27) 482 = s93 (gP G a 27) 482 := (by rw [e_s196, zU_at (Or.inr (by omega)), e_s193, zU_at (Or.inr (by omega)), e_s192, zU_at (Or.inl (zne (zr (k := 19) (t2 := 82) hG ha rfl) (zr (k := 27) (t2 := 84) hG ha rfl) (by decide)))])
              have g229 : s196 (gP G a 27) 483 = s93 (gP G a 27) 483 := (by rw [e_s196, zU_at (Or.inr (by omega)), e_s193, zU_at (Or.inr (by omega)), e_s192, zU_at (Or.inl (zne (zr (k := 19) (t2 := 82) hG ha rfl) (zr (k := 27) (t2 := 84) hG ha rfl) (by decide)))])
              have g230 : s196 (gP G a 27) 484 = s93 (gP G a 27) 484 := (by rw [e_s196, zU_at (Or.inr (by omega)), e_s193, zU_at (Or.inr (by omega)), e_s192, zU_at (Or.inl (zne (zr (k := 19) (t2 := 82) hG ha rfl) (zr (k := 27) (t2 := 84) hG ha rfl) (by decide)))])
              have g231 : s196 (gP G a 27) 485 = s93 (gP G a 27) 485 := (by rw [e_s196, zU_at (Or.inr (by omega)), e_s193, zU_at (Or.inr (by omega)), e_s192, zU_at (Or.inl (zne (zr (k := 19) (t2 := 82) hG ha rfl) (zr (k := 27) (t2 := 84) hG ha rfl) (by decide)))])
              have g232 : s196 (gP G a 27) 486 = s93 (gP G a 27) 486 := (by rw [e_s196, zU_at (Or.inr (by omega)), e_s193, zU_at (Or.inr (by omega)), e_s192, zU_at (Or.inl (zne (zr (k := 19) (t2 := 82) hG ha rfl) (zr (k := 27) (t2 := 84) hG ha rfl) (by decide)))])
              have g233 : s196 (gP G a 27) 488 = s93 (gP G a 27) 488 := (by rw [e_s196, zU_at (Or.inr (by omega)), e_s193, zU_at (Or.inr (by omega)), e_s192, zU_at (Or.inl (zne (zr (k := 19) (t2 := 82) hG ha rfl) (zr (k := 27) (t2 := 84) hG ha rfl) (by decide)))])
              exact j_sub [2, 1, 3, 0] [(0, .ref a), (1, .int (zI (v54 + 1))), (2, .int (zI 1)), (3, .int (zI (v55 + 1)))] rfl (ih_c165_92 (v54 + 1) (v55 + 1) s196 (by omega) (by omega) (by omega) hS_s196 (zFr_u (zFr_u (zFr_u (zFr_t zFr_rf hF_s93 (by decide)) e_s192 (zr (k := 19) (t2 := 82) hG ha rfl) (by decide)) e_s193 (zr (k := 27) (t2 := 84) hG ha rfl) (by decide)) e_s196 (zr (k := 27) (t2 := 84) hG ha rfl) (by decide)) (by omega) (by omega) (by omega) (by omega) (by omega) (by omega) (by omega) (by omega) (by omega) (by omega) (by omega))
            refine j_icmp_ge hx 233 dX12_sets_226 rfl (by omega) (by omega) (fun h234 => ?_) (fun h234 => ?_)
            · skip
              refine j_iconst hx dX12_sets_233 ?_
              exact j_sub [0, 1, 2, 3] [(0, .ref a), (1, .int (zI v54)), (2, .int (zI 1)), (3, .int (zI v55))] rfl (c234_194 0 (by omega))
            · skip
              refine j_iconst hx dX12_sets_229 ?_
              refine j_goto hx 234 dX12_sets_230 rfl ?_
              exact j_sub [0, 1, 2, 3] [(0, .ref a), (1, .int (zI v54)), (2, .int (zI 1)), (3, .int (zI v55))] rfl (c234_194 1 (by omega))
      exact j_sub [1, 2, 3, 0] [(0, .ref a), (1, .int (zI v40)), (2, .int (zI 1)), (3, .int (zI 0))] rfl (c165_92 (2147483648 * 4) v40 0 s91 (by omega) (by omega) (by omega) hS_s91 zFr_rf (by omega) (by omega) (by omega) (by omega) (by omega) (by omega) (by omega) (by omega) (by omega) (by omega) (by omega))
    refine j_icmp_ge hx 161 dX12_sets_149 rfl ⟨by decide, by decide⟩ (by omega) (fun h235 => ?_) (fun h235 => ?_)
    · skip
      refine j_iconst hx dX12_sets_161 ?_
      exact j_sub [0, 1, 2] [(0, .ref a), (1, .int (zI v40)), (2, .int (zI 1))] rfl (c162_87 0 (by omega) (by omega) (by omega))
    · skip
      refine j_aload_n hx 0 dX12_sets_152 rfl ?_
      refine g13_13 hx hG ha kf_RX12_32 dX12_sets_153 ?_
      refine j_iload_n hx 2 dX12_sets_156 rfl ?_
      have f236 := zaI (j := 1) hS0 (zr (k := 13) (t2 := 76) hG ha rfl) rfl (zlen hG (zr (k := 13) (t2 := 76) hG ha rfl) (n := 3) rfl rfl) (show 0 ≤ 1 by omega) (by omega) rfl
      refine j_iald hx hG (zr (k := 13) (t2 := 76) hG ha rfl) (by decide) rfl (zlen hG (zr (k := 13) (t2 := 76) hG ha rfl) (n := 3) rfl rfl) (by omega) (by omega) (j := 1) rfl (v := (s0 (gP G a 13) 1)) (by rw [e_s86, zU_at (Or.inl (zne (zr (k := 27) (t2 := 84) hG ha rfl) (zr (k := 13) (t2 := 76) hG ha rfl) (by decide))), e_s85, zU_at (Or.inl (zne (zr (k := 18) (t2 := 81) hG ha rfl) (zr (k := 13) (t2 := 76) hG ha rfl) (by decide))), (zFr_g hF_s66 (zr (k := 13) (t2 := 76) hG ha rfl) (by decide))]) dX12_sets_157 ?_
      refine j_goto hx 162 dX12_sets_158 rfl ?_
      exact j_sub [0, 1, 2] [(0, .ref a), (1, .int (zI v40)), (2, .int (zI 1))] rfl (c162_87 ((s0 (gP G a 13) 1)) (by omega) (by omega) (by omega))
  have x102_21 : ∀ (v14 : Int) (s22 : zS), (0 ≤ v14 ∧ v14 ≤ 60) → (zSK G s22) → (zFr [13, 80, 81, 82, 83, 84, 85, 87, 91, 94] G s0 s22) → (s22 a 0 = s0 a 0) → (s22 a 3 = s0 a 3) → (s22 a 4 = s0 a 4) → (s22 a 5 = s0 a 5) → (s22 a 7 = s0 a 7) → (s22 a 21 = s0 a 21) → (s22 a 22 = s0 a 22) → (s22 a 23 = s0 a 23) → (s22 a 38 = s0 a 38) → (s22 a 51 = s0 a 51) → (s22 a 52 = s0 a 52) → (zQn (s22 (gP G a 17)) (s22 a 24)) → (zc (s22 (gP G a 27)) ≤ v14) → (s22 a 24 = s0 a 21) → (v14 ≤ 0 ∧ s22 (gP G a 27) 480 = 0 ∧ s22 (gP G a 27) 481 = 0 ∧ s22 (gP G a 27) 482 = 0 ∧ s22 (gP G a 27) 488 = 0) → JJ X E 4 G s22 0 0 [(0, .ref a), (1, .int (zI v14)), (2, .int (zI 0))] 102 [] := by
    intro v14 s22 fA23 hS_s22 hF_s22 fA26 fA27 fA28 fA29 fA30 fA31 fA32 fA33 fA34 fA35 fA36 fA37 fA38 fA39 fA40
    have f15 := zaI (j := 0) hS0 (zr (k := 13) (t2 := 76) hG ha rfl) rfl (zlen hG (zr (k := 13) (t2 := 76) hG ha rfl) (n := 3) rfl rfl) (show (0 : Int) ≤ 0 by decide) (by decide) rfl
    have f16 := zaI (j := 1) hS0 (zr (k := 13) (t2 := 76) hG ha rfl) rfl (zlen hG (zr (k := 13) (t2 := 76) hG ha rfl) (n := 3) rfl rfl) (show (0 : Int) ≤ 1 by decide) (by decide) rfl
    have f17 := zaI (j := 2) hS0 (zr (k := 13) (t2 := 76) hG ha rfl) rfl (zlen hG (zr (k := 13) (t2 := 76) hG ha rfl) (n := 3) rfl rfl) (show (0 : Int) ≤ 2 by decide) (by decide) rfl
    refine j_iload_n hx 2 dX12_sets_102 rfl ?_
    refine j_iconst hx dX12_sets_103 ?_
    refine j_icmp_ge hx 250 dX12_sets_104 rfl ⟨by decide, by decide⟩ ⟨by decide, by decide⟩ (fun h18 => absurd h18 (by omega)) (fun h18 => ?_)
    refine j_aload_n hx 0 dX12_sets_107 rfl ?_
    refine g13_18 hx hG ha kf_RX12_47 dX12_sets_108 ?_
    refine j_iload_n hx 2 dX12_sets_111 rfl ?_
    refine j_aload_n hx 0 dX12_sets_112 rfl ?_
    refine g13_11 hx hG ha kf_RX12_26 dX12_sets_113 ?_
    refine j_iload_n hx 2 dX12_sets_116 rfl ?_
    have f19 := zaI (j := 0) hS0 (zr (k := 11) (t2 := 74) hG ha rfl) rfl (zlen hG (zr (k := 11) (t2 := 74) hG ha rfl) (n := 3) rfl rfl) (show 0 ≤ 0 by omega) (by omega) rfl
    refine j_iald hx hG (zr (k := 11) (t2 := 74) hG ha rfl) (by decide) rfl (zlen hG (zr (k := 11) (t2 := 74) hG ha rfl) (n := 3) rfl rfl) (by omega) (by omega) (j := 0) rfl (v := (s0 (gP G a 11) 0)) (by rw [(zFr_g hF_s22 (zr (k := 11) (t2 := 74) hG ha rfl) (by decide))]) dX12_sets_117 ?_
    refine j_iast hx hG (zr (k := 18) (t2 := 81) hG ha rfl) (by decide) rfl (zlen hG (zr (k := 18) (t2 := 81) hG ha rfl) (n := 3) rfl rfl) (by omega) (by omega) (j := 0) rfl dX12_sets_118 ?_
    obtain ⟨s41, e_s41⟩ : ∃ z, z = zU s22 (gP G a 18) 0 ((s0 (gP G a 11) 0)) := ⟨_, rfl⟩
    rw [← e_s41]
    have hS_s41 : zSK G s41 := by rw [e_s41]; exact zSK_A hS_s22 (zr (k := 18) (t2 := 81) hG ha rfl) rfl rfl rfl (by omega)
    refine j_aload_n hx 0 dX12_sets_119 rfl ?_
    refine g13_27 hx hG ha kf_RX12_56 dX12_sets_120 ?_
    refine j_sipush hx dX12_sets_123 rfl ?_
    refine j_iload_n hx 2 dX12_sets_126 rfl ?_
    refine j_iadd hx (r := 491) dX12_sets_127 (by omega) ?_
    refine j_aload_n hx 0 dX12_sets_128 rfl ?_
    refine g13_15 hx hG ha kf_RX12_38 dX12_sets_129 ?_
    refine j_iload_n hx 2 dX12_sets_132 rfl ?_
    have f20 := zaI (j := 0) hS0 (zr (k := 15) (t2 := 78) hG ha rfl) rfl (zlen hG (zr (k := 15) (t2 := 78) hG ha rfl) (n := 3) rfl rfl) (show 0 ≤ 0 by omega) (by omega) rfl
    refine j_iald hx hG (zr (k := 15) (t2 := 78) hG ha rfl) (by decide) rfl (zlen hG (zr (k := 15) (t2 := 78) hG ha rfl) (n := 3) rfl rfl) (by omega) (by omega) (j := 0) rfl (v := (s0 (gP G a 15) 0)) (by rw [e_s41, zU_at (Or.inl (zne (zr (k := 18) (t2 := 81) hG ha rfl) (zr (k := 15) (t2 := 78) hG ha rfl) (by decide))), (zFr_g hF_s22 (zr (k := 15) (t2 := 78) hG ha rfl) (by decide))]) dX12_sets_133 ?_
    refine j_iast hx hG (zr (k := 27) (t2 := 84) hG ha rfl) (by decide) rfl (zlen hG (zr (k := 27) (t2 := 84) hG ha rfl) (n := 515) rfl rfl) (by omega) (by omega) (j := 491) rfl dX12_sets_134 ?_
    obtain ⟨s42, e_s42⟩ : ∃ z, z = zU s41 (gP G a 27) 491 ((s0 (gP G a 15) 0)) := ⟨_, rfl⟩
    rw [← e_s42]
    have hS_s42 : zSK G s42 := by rw [e_s42]; exact zSK_a hS_s41 (zr (k := 27) (t2 := 84) hG ha rfl) rfl rfl (congrArg some (axS_7 491 (by omega))) (by omega)
    have g22 : zc (s41 (gP G a 27)) = zc (s22 (gP G a 27)) := by rw [e_s41, zU_ne (zne (zr (k := 18) (t2 := 81) hG ha rfl) (zr (k := 27) (t2 := 84) hG ha rfl) (by decide))]
    have z21 : zc (s42 (gP G a 27)) = zc (s41 (gP G a 27)) := by rw [e_s42]; exact zc_o (by omega)
    refine j_aload_n hx 0 dX12_sets_135 rfl ?_
    refine g13_27 hx hG ha kf_RX12_56 dX12_sets_136 ?_
    refine j_sipush hx dX12_sets_139 rfl ?_
    refine j_iload_n hx 2 dX12_sets_142 rfl ?_
    refine j_iadd hx (r := 480) dX12_sets_143 (by omega) ?_
    refine j_iload_n hx 2 dX12_sets_144 rfl ?_
    refine j_aload_n hx 0 dX12_sets_145 rfl ?_
    have f23 := zf hS_s22 ha (k := 21) rfl
    refine g13_21 hx hG ha kf_RX12_180 (v := (s22 a 21)) (by rw [e_s42, zU_at (Or.inl (zne (zr (k := 27) (t2 := 84) hG ha rfl) ha (by decide))), e_s41, zU_at (Or.inl (zne (zr (k := 18) (t2 := 81) hG ha rfl) ha (by decide)))]) dX12_sets_146 ?_
    have c162_43 : ∀ (v24 : Int), (0 ≤ v24 ∧ v24 ≤ 60) → (0 ≤ v24 ∧ v24 ≤ 60) → (v24 ≤ s0 (gP G a 13) 0) → JJ X E 4 G s42 0 0 [(0, .ref a), (1, .int (zI v14)), (2, .int (zI 0))] 162 [.int (zI v24), .int (zI 480), .ref (gP G a 27)] := by
      intro v24 fA44 fA45 fA46
      refine j_iast hx hG (zr (k := 27) (t2 := 84) hG ha rfl) (by decide) rfl (zlen hG (zr (k := 27) (t2 := 84) hG ha rfl) (n := 515) rfl rfl) (by omega) (by omega) (j := 480) rfl dX12_sets_162 ?_
      obtain ⟨s47, e_s47⟩ : ∃ z, z = zU s42 (gP G a 27) 480 v24 := ⟨_, rfl⟩
      rw [← e_s47]
      have hS_s47 : zSK G s47 := by rw [e_s47]; exact zSK_a hS_s42 (zr (k := 27) (t2 := 84) hG ha rfl) rfl rfl (congrArg some (axS_2 480 (by omega))) (by omega)
      have g26 : s42 (gP G a 27) 480 = s22 (gP G a 27) 480 := (by rw [e_s42, zU_at (Or.inr (by decide)), e_s41, zU_at (Or.inl (zne (zr (k := 18) (t2 := 81) hG ha rfl) (zr (k := 27) (t2 := 84) hG ha rfl) (by decide)))])
      have g27 : s47 (gP G a 27) 480 = v24 := (by rw [e_s47, zU_eq])
      have z25 : zc (s47 (gP G a 27)) = zc (s42 (gP G a 27)) - s42 (gP G a 27) 480 + s47 (gP G a 27) 480 := by rw [e_s47, zU_eq]; exact zc_w (by omega) (by omega)
      refine j_iconst hx dX12_sets_163 ?_
      refine j_istore_n hx [(3, .int (zI 0)), (0, .ref a), (1, .int (zI v14)), (2, .int (zI 0))] dX12_sets_164 (by decide) rfl ?_
      have g30 : s47 (gP G a 27) 481 = s22 (gP G a 27) 481 := (by rw [e_s47, zU_at (Or.inr (by decide)), e_s42, zU_at (Or.inr (by decide)), e_s41, zU_at (Or.inl (zne (zr (k := 18) (t2 := 81) hG ha rfl) (zr (k := 27) (t2 := 84) hG ha rfl) (by decide)))])
      have g31 : s47 (gP G a 27) 482 = s22 (gP G a 27) 482 := (by rw [e_s47, zU_at (Or.inr (by decide)), e_s42, zU_at (Or.inr (by decide)), e_s41, zU_at (Or.inl (zne (zr (k := 18) (t2 := 81) hG ha rfl) (zr (k := 27) (t2 := 84) hG ha rfl) (by decide)))])
      have g32 : s47 (gP G a 27) 483 = s22 (gP G a 27) 483 := (by rw [e_s47, zU_at (Or.inr (by decide)), e_s42, zU_at (Or.inr (by decide)), e_s41, zU_at (Or.inl (zne (zr (k := 18) (t2 := 81) hG ha rfl) (zr (k := 27) (t2 := 84) hG ha rfl) (by decide)))])
      have g33 : s47 (gP G a 27) 484 = s22 (gP G a 27) 484 := (by rw [e_s47, zU_at (Or.inr (by decide)), e_s42, zU_at (Or.inr (by decide)), e_s41, zU_at (Or.inl (zne (zr (k := 18) (t2 := 81) hG ha rfl) (zr (k := 27) (t2 := 84) hG ha rfl) (by decide)))])
      have g34 : s47 (gP G a 27) 485 = s22 (gP G a 27) 485 := (by rw [e_s47, zU_at (Or.inr (by decide)), e_s42, zU_at (Or.inr (by decide)), e_s41, zU_at (Or.inl (zne (zr (k := 18) (t2 := 81) hG ha rfl) (zr (k := 27) (t2 := 84) hG ha rfl) (by decide)))])
      have g35 : s47 (gP G a 27) 486 = s22 (gP G a 27) 486 := (by rw [e_s47, zU_at (Or.inr (by decide)), e_s42, zU_at (Or.inr (by decide)), e_s41, zU_at (Or.inl (zne (zr (k := 18) (t2 := 81) hG ha rfl) (zr (k := 27) (t2 := 84) hG ha rfl) (by decide)))])
      have g36 : s47 (gP G a 27) 488 = s22 (gP G a 27) 488 := (by rw [e_s47, zU_at (Or.inr (by decide)), e_s42, zU_at (Or.inr (by decide)), e_s41, zU_at (Or.inl (zne (zr (k := 18) (t2 := 81) hG ha rfl) (zr (k := 27) (t2 := 84) hG ha rfl) (by decide)))])
      have c165_48 : ∀ (m_c165_48 : Nat) (v28 : Int) (v29 : Int) (s49 : zS), 2147483648 - v29 < m_c165_48 → (0 ≤ v28 ∧ v28 ≤ 60) → (0 ≤ v29 ∧ v29 ≤ 60) → (zSK G s49) → (zFr [82, 84] G s47 s49) → (zc (s49 (gP G a 27)) = zc (s47 (gP G a 27))) → (v28 = v14 + v29) → (s49 (gP G a 27) 480 = s47 (gP G a 27) 480) → (s49 (gP G a 27) 481 = s47 (gP G a 27) 481) → (s49 (gP G a 27) 482 = s47 (gP G a 27) 482) → (s49 (gP G a 27) 483 = s47 (gP G a 27) 483) → (s49 (gP G a 27) 484 = s47 (gP G a 27) 484) → (s49 (gP G a 27) 485 = s47 (gP G a 27) 485) → (s49 (gP G a 27) 486 = s47 (gP G a 27) 486) → (s49 (gP G a 27) 488 = s47 (gP G a 27) 488) → (v29 ≤ s49 (gP G a 27) 480) → JJ X E 4 G s49 0 0 [(0, .ref a), (1, .int (zI v28)), (2, .int (zI 0)), (3, .int (zI v29))] 165 [] := by
        intro m_c165_48
        induction m_c165_48 with
        | zero => intro v28 v29 s49 hm_c165_48 fA50 fA51 hS_s49 hF_s49 fA54 fA55 fA56 fA57 fA58 fA59 fA60 fA61 fA62 fA63 fA64; exfalso; omega
        | succ m_c165_48 ih_c165_48 => 
          intro v28 v29 s49 hm_c165_48 fA50 fA51 hS_s49 hF_s49 fA54 fA55 fA56 fA57 fA58 fA59 fA60 fA61 fA62 fA63 fA64
          refine j_iload_n hx 3 dX12_sets_165 rfl ?_
          refine j_aload_n hx 0 dX12_sets_166 rfl ?_
          refine g13_27 hx hG ha kf_RX12_56 dX12_sets_167 ?_
          refine j_sipush hx dX12_sets_170 rfl ?_
          refine j_iload_n hx 2 dX12_sets_173 rfl ?_
          refine j_iadd hx (r := 480) dX12_sets_174 (by omega) ?_
          have f37 := zaQ (j := 480) hS_s49 (zr (k := 27) (t2 := 84) hG ha rfl) (congrArg some (axS_2 480 (by omega))) (zlen hG (zr (k := 27) (t2 := 84) hG ha rfl) (n := 515) rfl rfl) (show 0 ≤ 480 by omega) (by omega) rfl
          have c38 := zc_1 (j := 480) hS_s49 (zr (k := 27) (t2 := 84) hG ha rfl) (zn hG (zr (k := 27) (t2 := 84) hG ha rfl) rfl) (by omega) (by omega)
          refine j_iald hx hG (zr (k := 27) (t2 := 84) hG ha rfl) (by decide) rfl (zlen hG (zr (k := 27) (t2 := 84) hG ha rfl) (n := 515) rfl rfl) (by omega) (by omega) (j := 480) rfl rfl dX12_sets_175 ?_
          refine j_icmp_ge hx 244 dX12_sets_176 rfl (by omega) (by omega) (fun h39 => ?_) (fun h39 => ?_)
          · skip
            refine j_iinc hx 2 [(2, .int (zI 1)), (0, .ref a), (1, .int (zI v28)), (3, .int (zI v29))] dX12_sets_244 rfl (by omega) (by decide) rfl ?_
            refine j_goto hx 102 dX12_sets_247 rfl ?_
            have g237 : s49 a 0 = s22 a 0 := (by rw [(zFr_g hF_s49 ha (by decide)), e_s47, zU_at (Or.inl (zne (zr (k := 27) (t2 := 84) hG ha rfl) ha (by decide))), e_s42, zU_at (Or.inl (zne (zr (k := 27) (t2 := 84) hG ha rfl) ha (by decide))), e_s41, zU_at (Or.inl (zne (zr (k := 18) (t2 := 81) hG ha rfl) ha (by decide)))])
            have f238 := zf hS_s22 ha (k := 0) rfl
            have g239 : s49 a 3 = s22 a 3 := (by rw [(zFr_g hF_s49 ha (by decide)), e_s47, zU_at (Or.inl (zne (zr (k := 27) (t2 := 84) hG ha rfl) ha (by decide))), e_s42, zU_at (Or.inl (zne (zr (k := 27) (t2 := 84) hG ha rfl) ha (by decide))), e_s41, zU_at (Or.inl (zne (zr (k := 18) (t2 := 81) hG ha rfl) ha (by decide)))])
            have f240 := zf hS_s22 ha (k := 3) rfl
            have g241 : s49 a 4 = s22 a 4 := (by rw [(zFr_g hF_s49 ha (by decide)), e_s47, zU_at (Or.inl (zne (zr (k := 27) (t2 := 84) hG ha rfl) ha (by decide))), e_s42, zU_at (Or.inl (zne (zr (k := 27) (t2 := 84) hG ha rfl) ha (by decide))), e_s41, zU_at (Or.inl (zne (zr (k := 18) (t2 := 81) hG ha rfl) ha (by decide)))])
            have f242 := zf hS_s22 ha (k := 4) rfl
            have g243 : s49 a 5 = s22 a 5 := (by rw [(zFr_g hF_s49 ha (by decide)), e_s47, zU_at (Or.inl (zne (zr (k := 27) (t2 := 84) hG ha rfl) ha (by decide))), e_s42, zU_at (Or.inl (zne (zr (k := 27) (t2 := 84) hG ha rfl) ha (by decide))), e_s41, zU_at (Or.inl (zne (zr (k := 18) (t2 := 81) hG ha rfl) ha (by decide)))])
            have f244 := zf hS_s22 ha (k := 5) rfl
            have g245 : s49 a 7 = s22 a 7 := (by rw [(zFr_g hF_s49 ha (by decide)), e_s47, zU_at (Or.inl (zne (zr (k := 27) (t2 := 84) hG ha rfl) ha (by decide))), e_s42, zU_at (Or.inl (zne (zr (k := 27) (t2 := 84) hG ha rfl) ha (by decide))), e_s41, zU_at (Or.inl (zne (zr (k := 18) (t2 := 81) hG ha rfl) ha (by decide)))])
            have f246 := zf hS_s22 ha (k := 7) rfl
            have g247 : s49 a 21 = s22 a 21 := (by rw [(zFr_g hF_s49 ha (by decide)), e_s47, zU_at (Or.inl (zne (zr (k := 27) (t2 := 84) hG ha rfl) ha (by decide))), e_s42, zU_at (Or.inl (zne (zr (k := 27) (t2 := 84) hG ha rfl) ha (by decide))), e_s41, zU_at (Or.inl (zne (zr (k := 18) (t2 := 81) hG ha rfl) ha (by decide)))])
            have g248 : s49 a 22 = s22 a 22 := (by rw [(zFr_g hF_s49 ha (by decide)), e_s47, zU_at (Or.inl (zne (zr (k := 27) (t2 := 84) hG ha rfl) ha (by decide))), e_s42, zU_at (Or.inl (zne (zr (k := 27) (t2 := 84) hG ha rfl) ha (by decide))), e_s41, zU_at (Or.inl (zne (zr (k := 18) (t2 := 81) hG ha rfl) ha (by decide)))])
            have f249 := zf hS_s22 ha (k := 22) rfl
            have g250 : s49 a 23 = s22 a 23 := (by rw [(zFr_g hF_s49 ha (by decide)), e_s47, zU_at (Or.inl (zne (zr (k := 27) (t2 := 84) hG ha rfl) ha (by decide))), e_s42, zU_at (Or.inl (zne (zr (k := 27) (t2 := 84) hG ha rfl) ha (by decide))), e_s41, zU_at (Or.inl (zne (zr (k := 18) (t2 := 81) hG ha rfl) ha (by decide)))])
            have f251 := zf hS_s22 ha (k := 23) rfl
            have g252 : s49 a 38 = s22 a 38 := (by rw [(zFr_g hF_s49 ha (by decide)), e_s47, zU_at (Or.inl (zne (zr (k := 27) (t2 := 84) hG ha rfl) ha (by decide))), e_s42, zU_at (Or.inl (zne (zr (k := 27) (t2 := 84) hG ha rfl) ha (by decide))), e_s41, zU_at (Or.inl (zne (zr (k := 18) (t2 := 81) hG ha rfl) ha (by decide)))])
            have f253 := zf hS_s22 ha (k := 38) rfl
            have g254 : s49 a 51 = s22 a 51 := (by rw [(zFr_g hF_s49 ha (by decide)), e_s47, zU_at (Or.inl (zne (zr (k := 27) (t2 := 84) hG ha rfl) ha (by decide))), e_s42, zU_at (Or.inl (zne (zr (k := 27) (t2 := 84) hG ha rfl) ha (by decide))), e_s41, zU_at (Or.inl (zne (zr (k := 18) (t2 := 81) hG ha rfl) ha (by decide)))])
            have f255 := zf hS_s22 ha (k := 51) rfl
            have g256 : s49 a 52 = s22 a 52 := (by rw [(zFr_g hF_s49 ha (by decide)), e_s47, zU_at (Or.inl (zne (zr (k := 27) (t2 := 84) hG ha rfl) ha (by decide))), e_s42, zU_at (Or.inl (zne (zr (k := 27) (t2 := 84) hG ha rfl) ha (by decide))), e_s41, zU_at (Or.inl (zne (zr (k := 18) (t2 := 81) hG ha rfl) ha (by decide)))])
            have f257 := zf hS_s22 ha (k := 52) rfl
            have g258 : s49 a 24 = s22 a 24 := (by rw [(zFr_g hF_s49 ha (by decide)), e_s47, zU_at (Or.inl (zne (zr (k := 27) (t2 := 84) hG ha rfl) ha (by decide))), e_s42, zU_at (Or.inl (zne (zr (k := 27) (t2 := 84) hG ha rfl) ha (by decide))), e_s41, zU_at (Or.inl (zne (zr (k := 18) (t2 := 81) hG ha rfl) ha (by decide)))])
            have f259 := zf hS_s22 ha (k := 24) rfl
            exact j_sub [1, 2, 0] [(0, .ref a), (1, .int (zI v28)), (2, .int (zI 1))] rfl (x102_65 v28 s49 (by omega) hS_s49 (zFr_t (zFr_u (zFr_u (zFr_u (zFr_t zFr_rf hF_s22 (by decide)) e_s41 (zr (k := 18) (t2 := 81) hG ha rfl) (by decide)) e_s42 (zr (k := 27) (t2 := 84) hG ha rfl) (by decide)) e_s47 (zr (k := 27) (t2 := 84) hG ha rfl) (by decide)) hF_s49 (by decide)) (by omega) (by omega) (by omega) (by omega) (by omega) (by omega) (by omega) (by omega) (by omega) (by omega) (by omega) (by have q1 : s49 (gP G a 17) = s22 (gP G a 17) := (by rw [hF_s49 (gP G a 17) (by rw [(zr (k := 17) (t2 := 80) hG ha rfl)]; decide), e_s47, zU_ne (zne (zr (k := 27) (t2 := 84) hG ha rfl) (zr (k := 17) (t2 := 80) hG ha rfl) (by decide)), e_s42, zU_ne (zne (zr (k := 27) (t2 := 84) hG ha rfl) (zr (k := 17) (t2 := 80) hG ha rfl) (by decide)), e_s41, zU_ne (zne (zr (k := 18) (t2 := 81) hG ha rfl) (zr (k := 17) (t2 := 80) hG ha rfl) (by decide))]); rw [q1]; exact (zQn_nn fA37 (by omega))) (by omega) (by omega) (by omega))
          · skip
            refine j_aload_n hx 0 dX12_sets_179 rfl ?_
            refine g13_19 hx hG ha kf_RX12_50 dX12_sets_180 ?_
            refine j_iload_n hx 1 dX12_sets_183 rfl ?_
            refine j_aload_n hx 0 dX12_sets_184 rfl ?_
            refine g13_12 hx hG ha kf_RX12_29 dX12_sets_185 ?_
            refine j_bipush hx dX12_sets_188 rfl ?_
            refine j_iload_n hx 2 dX12_sets_190 rfl ?_
            refine j_imul hx (r := 0) dX12_sets_191 (by omega) ?_
            refine j_iload_n hx 3 dX12_sets_192 rfl ?_
            refine j_iadd hx (r := v29) dX12_sets_193 (by omega) ?_
            have f260 := zaI (j := (v29).toNat) hS0 (zr (k := 12) (t2 := 75) hG ha rfl) rfl (zlen hG (zr (k := 12) (t2 := 75) hG ha rfl) (n := 180) rfl rfl) (show 0 ≤ v29 by omega) (by omega) rfl
            refine j_iald hx hG (zr (k := 12) (t2 := 75) hG ha rfl) (by decide) rfl (zlen hG (zr (k := 12) (t2 := 75) hG ha rfl) (n := 180) rfl rfl) (by omega) (by omega) (j := (v29).toNat) rfl (v := (s0 (gP G a 12) (v29).toNat)) (by rw [(zFr_g hF_s49 (zr (k := 12) (t2 := 75) hG ha rfl) (by decide)), e_s47, zU_at (Or.inl (zne (zr (k := 27) (t2 := 84) hG ha rfl) (zr (k := 12) (t2 := 75) hG ha rfl) (by decide))), e_s42, zU_at (Or.inl (zne (zr (k := 27) (t2 := 84) hG ha rfl) (zr (k := 12) (t2 := 75) hG ha rfl) (by decide))), e_s41, zU_at (Or.inl (zne (zr (k := 18) (t2 := 81) hG ha rfl) (zr (k := 12) (t2 := 75) hG ha rfl) (by decide))), (zFr_g hF_s22 (zr (k := 12) (t2 := 75) hG ha rfl) (by decide))]) dX12_sets_194 ?_
            refine j_iast hx hG (zr (k := 19) (t2 := 82) hG ha rfl) (by decide) rfl (zlen hG (zr (k := 19) (t2 := 82) hG ha rfl) (n := 60) rfl rfl) (by omega) (by omega) (j := (v28).toNat) rfl dX12_sets_195 ?_
            obtain ⟨s197, e_s197⟩ : ∃ z, z = zU s49 (gP G a 19) (v28).toNat ((s0 (gP G a 12) (v29).toNat)) := ⟨_, rfl⟩
            rw [← e_s197]
            have hS_s197 : zSK G s197 := by rw [e_s197]; exact zSK_A hS_s49 (zr (k := 19) (t2 := 82) hG ha rfl) rfl rfl rfl (by omega)
            refine j_aload_n hx 0 dX12_sets_196 rfl ?_
            refine g13_27 hx hG ha kf_RX12_56 dX12_sets_197 ?_
            refine j_iconst hx dX12_sets_200 ?_
            refine j_bipush hx dX12_sets_201 rfl ?_
            refine j_iload_n hx 2 dX12_sets_203 rfl ?_
            refine j_imul hx (r := 0) dX12_sets_204 (by omega) ?_
            refine j_iadd hx (r := 0) dX12_sets_205 (by omega) ?_
            refine j_iload_n hx 3 dX12_sets_206 rfl ?_
            refine j_iadd hx (r := v29) dX12_sets_207 (by omega) ?_
            refine j_iload_n hx 1 dX12_sets_208 rfl ?_
            refine j_iast hx hG (zr (k := 27) (t2 := 84) hG ha rfl) (by decide) rfl (zlen hG (zr (k := 27) (t2 := 84) hG ha rfl) (n := 515) rfl rfl) (by omega) (by omega) (j := (v29).toNat) rfl dX12_sets_209 ?_
            obtain ⟨s198, e_s198⟩ : ∃ z, z = zU s197 (gP G a 27) (v29).toNat v28 := ⟨_, rfl⟩
            rw [← e_s198]
            have hS_s198 : zSK G s198 := by rw [e_s198]; exact zSK_a hS_s197 (zr (k := 27) (t2 := 84) hG ha rfl) rfl rfl (congrArg some (axS_0 (v29).toNat (by omega))) (by omega)
            have g262 : zc (s197 (gP G a 27)) = zc (s49 (gP G a 27)) := by rw [e_s197, zU_ne (zne (zr (k := 19) (t2 := 82) hG ha rfl) (zr (k := 27) (t2 := 84) hG ha rfl) (by decide))]
            have z261 : zc (s198 (gP G a 27)) = zc (s197 (gP G a 27)) := by rw [e_s198]; exact zc_o (by omega)
            refine j_aload_n hx 0 dX12_sets_210 rfl ?_
            refine g13_27 hx hG ha kf_RX12_56 dX12_sets_211 ?_
            refine j_sipush hx dX12_sets_214 rfl ?_
            refine j_iload_n hx 1 dX12_sets_217 rfl ?_
            refine j_iadd hx (r := v28 + 420) dX12_sets_218 (by omega) ?_
            refine j_iload_n hx 3 dX12_sets_219 rfl ?_
            refine j_aload_n hx 0 dX12_sets_220 rfl ?_
            refine g13_14 hx hG ha kf_RX12_35 dX12_sets_221 ?_
            refine j_iload_n hx 2 dX12_sets_224 rfl ?_
            have f263 := zaI (j := 0) hS0 (zr (k := 14) (t2 := 77) hG ha rfl) rfl (zlen hG (zr (k := 14) (t2 := 77) hG ha rfl) (n := 3) rfl rfl) (show 0 ≤ 0 by omega) (by omega) rfl
            refine j_iald hx hG (zr (k := 14) (t2 := 77) hG ha rfl) (by decide) rfl (zlen hG (zr (k := 14) (t2 := 77) hG ha rfl) (n := 3) rfl rfl) (by omega) (by omega) (j := 0) rfl (v := (s0 (gP G a 14) 0)) (by rw [e_s198, zU_at (Or.inl (zne (zr (k := 27) (t2 := 84) hG ha rfl) (zr (k := 14) (t2 := 77) hG ha rfl) (by decide))), e_s197, zU_at (Or.inl (zne (zr (k := 19) (t2 := 82) hG ha rfl) (zr (k := 14) (t2 := 77) hG ha rfl) (by decide))), (zFr_g hF_s49 (zr (k := 14) (t2 := 77) hG ha rfl) (by decide)), e_s47, zU_at (Or.inl (zne (zr (k := 27) (t2 := 84) hG ha rfl) (zr (k := 14) (t2 := 77) hG ha rfl) (by decide))), e_s42, zU_at (Or.inl (zne (zr (k := 27) (t2 := 84) hG ha rfl) (zr (k := 14) (t2 := 77) hG ha rfl) (by decide))), e_s41, zU_at (Or.inl (zne (zr (k := 18) (t2 := 81) hG ha rfl) (zr (k := 14) (t2 := 77) hG ha rfl) (by decide))), (zFr_g hF_s22 (zr (k := 14) (t2 := 77) hG ha rfl) (by decide))]) dX12_sets_225 ?_
            have c234_199 : ∀ (v264 : Int), (0 ≤ v264 ∧ v264 ≤ 1) → JJ X E 4 G s198 0 0 [(0, .ref a), (1, .int (zI v28)), (2, .int (zI 0)), (3, .int (zI v29))] 234 [.int (zI v264), .int (zI (v28 + 420)), .ref (gP G a 27)] := by
              intro v264 fA200
              refine j_iast hx hG (zr (k := 27) (t2 := 84) hG ha rfl) (by decide) rfl (zlen hG (zr (k := 27) (t2 := 84) hG ha rfl) (n := 515) rfl rfl) (by omega) (by omega) (j := (v28 + 420).toNat) rfl dX12_sets_234 ?_
              obtain ⟨s201, e_s201⟩ : ∃ z, z = zU s198 (gP G a 27) (v28 + 420).toNat v264 := ⟨_, rfl⟩
              rw [← e_s201]
              have hS_s201 : zSK G s201 := by rw [e_s201]; exact zSK_a hS_s198 (zr (k := 27) (t2 := 84) hG ha rfl) rfl rfl (congrArg some (axS_1 (v28 + 420).toNat (by omega))) (by omega)
              have z265 : zc (s201 (gP G a 27)) = zc (s198 (gP G a 27)) := by rw [e_s201]; exact zc_o (by omega)
              refine j_iinc hx 1 [(1, .int (zI (v28 + 1))), (0, .ref a), (2, .int (zI 0)), (3, .int (zI v29))] dX12_sets_235 rfl (by omega) (by decide) rfl ?_
              refine j_iinc hx 3 [(3, .int (zI (v29 + 1))), (1, .int (zI (v28 + 1))), (0, .ref a), (2, .int (zI 0))] dX12_sets_238 rfl (by omega) (by decide) rfl ?_
              refine j_goto hx 165 dX12_sets_241 rfl ?_
              have g266 : s201 (gP G a 27) 480 = s49 (gP G a 27) 480 := (by rw [e_s201, zU_at (Or.inr (by omega)), e_s198, zU_at (Or.inr (by omega)), e_s197, zU_at (Or.inl (zne (zr (k := 19) (t2 := 82) hG ha rfl) (zr (k := 27) (t2 := 84) hG ha rfl) (by decide)))])
              have g267 : s201 (gP G a 27) 481 = s49 (gP G a 27) 481 := (by rw [e_s201, zU_at (Or.inr (by omega)), e_s198, zU_at (Or.inr (by omega)), e_s197, zU_at (Or.inl (zne (zr (k := 19) (t2 := 82) hG ha rfl) (zr (k := 27) (t2 := 84) hG ha rfl) (by decide)))])
              have g268 : s201 (gP G a 27) 482 = s49 (gP G a 27) 482 := (by rw [e_s201, zU_at (Or.inr (by omega)), e_s198, zU_at (Or.inr (by omega)), e_s197, zU_at (Or.inl (zne (zr (k := 19) (t2 := 82) hG ha rfl) (zr (k := 27) (t2 := 84) hG ha rfl) (by decide)))])
              have g269 : s201 (gP G a 27) 483 = s49 (gP G a 27) 483 := (by rw [e_s201, zU_at (Or.inr (by omega)), e_s198, zU_at (Or.inr (by omega)), e_s197, zU_at (Or.inl (zne (zr (k := 19) (t2 := 82) hG ha rfl) (zr (k := 27) (t2 := 84) hG ha rfl) (by decide)))])
              have g270 : s201 (gP G a 27) 484 = s49 (gP G a 27) 484 := (by rw [e_s201, zU_at (Or.inr (by omega)), e_s198, zU_at (Or.inr (by omega)), e_s197, zU_at (Or.inl (zne (zr (k := 19) (t2 := 82) hG ha rfl) (zr (k := 27) (t2 := 84) hG ha rfl) (by decide)))])
              have g271 : s201 (gP G a 27) 485 = s49 (gP G a 27) 485 := (by rw [e_s201, zU_at (Or.inr (by omega)), e_s198, zU_at (Or.inr (by omega)), e_s197, zU_at (Or.inl (zne (zr (k := 19) (t2 := 82) hG ha rfl) (zr (k := 27) (t2 := 84) hG ha rfl) (by decide)))])
              have g272 : s201 (gP G a 27) 486 = s49 (gP G a 27) 486 := (by rw [e_s201, zU_at (Or.inr (by omega)), e_s198, zU_at (Or.inr (by omega)), e_s197, zU_at (Or.inl (zne (zr (k := 19) (t2 := 82) hG ha rfl) (zr (k := 27) (t2 := 84) hG ha rfl) (by decide)))])
              have g273 : s201 (gP G a 27) 488 = s49 (gP G a 27) 488 := (by rw [e_s201, zU_at (Or.inr (by omega)), e_s198, zU_at (Or.inr (by omega)), e_s197, zU_at (Or.inl (zne (zr (k := 19) (t2 := 82) hG ha rfl) (zr (k := 27) (t2 := 84) hG ha rfl) (by decide)))])
              exact j_sub [2, 1, 3, 0] [(0, .ref a), (1, .int (zI (v28 + 1))), (2, .int (zI 0)), (3, .int (zI (v29 + 1)))] rfl (ih_c165_48 (v28 + 1) (v29 + 1) s201 (by omega) (by omega) (by omega) hS_s201 (zFr_u (zFr_u (zFr_u (zFr_t zFr_rf hF_s49 (by decide)) e_s197 (zr (k := 19) (t2 := 82) hG ha rfl) (by decide)) e_s198 (zr (k := 27) (t2 := 84) hG ha rfl) (by decide)) e_s201 (zr (k := 27) (t2 := 84) hG ha rfl) (by decide)) (by omega) (by omega) (by omega) (by omega) (by omega) (by omega) (by omega) (by omega) (by omega) (by omega) (by omega))
            refine j_icmp_ge hx 233 dX12_sets_226 rfl (by omega) (by omega) (fun h274 => ?_) (fun h274 => ?_)
            · skip
              refine j_iconst hx dX12_sets_233 ?_
              exact j_sub [0, 1, 2, 3] [(0, .ref a), (1, .int (zI v28)), (2, .int (zI 0)), (3, .int (zI v29))] rfl (c234_199 0 (by omega))
            · skip
              refine j_iconst hx dX12_sets_229 ?_
              refine j_goto hx 234 dX12_sets_230 rfl ?_
              exact j_sub [0, 1, 2, 3] [(0, .ref a), (1, .int (zI v28)), (2, .int (zI 0)), (3, .int (zI v29))] rfl (c234_199 1 (by omega))
      exact j_sub [1, 2, 3, 0] [(0, .ref a), (1, .int (zI v14)), (2, .int (zI 0)), (3, .int (zI 0))] rfl (c165_48 (2147483648 * 4) v14 0 s47 (by omega) (by omega) (by omega) hS_s47 zFr_rf (by omega) (by omega) (by omega) (by omega) (by omega) (by omega) (by omega) (by omega) (by omega) (by omega) (by omega))
    refine j_icmp_ge hx 161 dX12_sets_149 rfl ⟨by decide, by decide⟩ (by omega) (fun h275 => ?_) (fun h275 => ?_)
    · skip
      refine j_iconst hx dX12_sets_161 ?_
      exact j_sub [0, 1, 2] [(0, .ref a), (1, .int (zI v14)), (2, .int (zI 0))] rfl (c162_43 0 (by omega) (by omega) (by omega))
    · skip
      refine j_aload_n hx 0 dX12_sets_152 rfl ?_
      refine g13_13 hx hG ha kf_RX12_32 dX12_sets_153 ?_
      refine j_iload_n hx 2 dX12_sets_156 rfl ?_
      have f276 := zaI (j := 0) hS0 (zr (k := 13) (t2 := 76) hG ha rfl) rfl (zlen hG (zr (k := 13) (t2 := 76) hG ha rfl) (n := 3) rfl rfl) (show 0 ≤ 0 by omega) (by omega) rfl
      refine j_iald hx hG (zr (k := 13) (t2 := 76) hG ha rfl) (by decide) rfl (zlen hG (zr (k := 13) (t2 := 76) hG ha rfl) (n := 3) rfl rfl) (by omega) (by omega) (j := 0) rfl (v := (s0 (gP G a 13) 0)) (by rw [e_s42, zU_at (Or.inl (zne (zr (k := 27) (t2 := 84) hG ha rfl) (zr (k := 13) (t2 := 76) hG ha rfl) (by decide))), e_s41, zU_at (Or.inl (zne (zr (k := 18) (t2 := 81) hG ha rfl) (zr (k := 13) (t2 := 76) hG ha rfl) (by decide))), (zFr_g hF_s22 (zr (k := 13) (t2 := 76) hG ha rfl) (by decide))]) dX12_sets_157 ?_
      refine j_goto hx 162 dX12_sets_158 rfl ?_
      exact j_sub [0, 1, 2] [(0, .ref a), (1, .int (zI v14)), (2, .int (zI 0))] rfl (c162_43 ((s0 (gP G a 13) 0)) (by omega) (by omega) (by omega))
  refine j_aload_n hx 0 dX12_sets_0 rfl ?_
  refine j_aload_n hx 0 dX12_sets_1 rfl ?_
  have f1 := zf hS0 ha (k := 21) rfl
  refine g13_21 hx hG ha kf_RX12_180 rfl dX12_sets_2 ?_
  refine p13_24 hx hG ha kf_RX12_189 dX12_sets_5 ?_
  obtain ⟨s1, e_s1⟩ : ∃ z, z = zU s0 a 24 ((s0 a 21)) := ⟨_, rfl⟩
  rw [← e_s1]
  have hS_s1 : zSK G s1 := by rw [e_s1]; exact zSK_F hS0 ha rfl rfl rfl (by omega)
  refine j_aload_n hx 0 dX12_sets_8 rfl ?_
  refine j_aload_n hx 0 dX12_sets_9 rfl ?_
  have f2 := zf hS0 ha (k := 22) rfl
  refine g13_22 hx hG ha kf_RX12_183 (v := (s0 a 22)) (by rw [e_s1, zU_at (Or.inr (by decide))]) dX12_sets_10 ?_
  refine p13_25 hx hG ha kf_RX12_192 dX12_sets_13 ?_
  obtain ⟨s2, e_s2⟩ : ∃ z, z = zU s1 a 25 ((s0 a 22)) := ⟨_, rfl⟩
  rw [← e_s2]
  have hS_s2 : zSK G s2 := by rw [e_s2]; exact zSK_F hS_s1 ha rfl rfl rfl (by omega)
  refine j_aload_n hx 0 dX12_sets_16 rfl ?_
  refine j_aload_n hx 0 dX12_sets_17 rfl ?_
  have f3 := zf hS0 ha (k := 23) rfl
  refine g13_23 hx hG ha kf_RX12_186 (v := (s0 a 23)) (by rw [e_s2, zU_at (Or.inr (by decide)), e_s1, zU_at (Or.inr (by decide))]) dX12_sets_18 ?_
  refine p13_26 hx hG ha kf_RX12_195 dX12_sets_21 ?_
  obtain ⟨s3, e_s3⟩ : ∃ z, z = zU s2 a 26 ((s0 a 23)) := ⟨_, rfl⟩
  rw [← e_s3]
  have hS_s3 : zSK G s3 := by rw [e_s3]; exact zSK_F hS_s2 ha rfl rfl rfl (by omega)
  refine j_iconst hx dX12_sets_24 ?_
  refine j_istore_n hx [(1, .int (zI 0)), (0, .ref a)] dX12_sets_25 (by decide) rfl ?_
  have c26_4 : ∀ (m_c26_4 : Nat) (v4 : Int) (s5 : zS), 2147483648 - v4 < m_c26_4 → (0 ≤ v4 ∧ v4 ≤ 12) → (zSK G s5) → (zFr [80] G s3 s5) → (zEq (v4).toNat (s5 (gP G a 17)) (s0 (gP G a 10))) → JJ X E 4 G s5 0 0 [(0, .ref a), (1, .int (zI v4))] 26 [] := by
    intro m_c26_4
    induction m_c26_4 with
    | zero => intro v4 s5 hm_c26_4 fA6 hS_s5 hF_s5 hE1; exfalso; omega
    | succ m_c26_4 ih_c26_4 => 
      intro v4 s5 hm_c26_4 fA6 hS_s5 hF_s5 hE1
      refine j_iload_n hx 1 dX12_sets_26 rfl ?_
      refine j_bipush hx dX12_sets_27 rfl ?_
      refine j_icmp_ge hx 50 dX12_sets_29 rfl (by omega) ⟨by decide, by decide⟩ (fun h5 => ?_) (fun h5 => ?_)
      · skip
        have g6 : s5 a 21 = s0 a 21 := (by rw [(zFr_g hF_s5 ha (by decide)), e_s3, zU_at (Or.inr (by decide)), e_s2, zU_at (Or.inr (by decide)), e_s1, zU_at (Or.inr (by decide))])
        have g7 : s5 a 24 = (s0 a 21) := (by rw [(zFr_g hF_s5 ha (by decide)), e_s3, zU_at (Or.inr (by decide)), e_s2, zU_at (Or.inr (by decide)), e_s1, zU_eq])
        have hP8 : zQn (s5 (gP G a 17)) (s5 a 24) := zQn_eq (n := s5 a 24) (zQn_nn (show zQn (s0 (gP G a 10)) (s0 a 21) from (zQn_nn e1 (by omega))) (by omega)) hE1 (by omega)
        refine j_iconst hx dX12_sets_50 ?_
        refine j_istore_n hx [(1, .int (zI 0)), (0, .ref a)] dX12_sets_51 (by decide) rfl ?_
        have c52_10 : ∀ (m_c52_10 : Nat) (v9 : Int) (s11 : zS), 2147483648 - v9 < m_c52_10 → (0 ≤ v9 ∧ v9 ≤ 12) → (zSK G s11) → (zFr [83] G s5 s11) → JJ X E 4 G s11 0 0 [(0, .ref a), (1, .int (zI v9))] 52 [] := by
          intro m_c52_10
          induction m_c52_10 with
          | zero => intro v9 s11 hm_c52_10 fA12 hS_s11 hF_s11; exfalso; omega
          | succ m_c52_10 ih_c52_10 => 
            intro v9 s11 hm_c52_10 fA12 hS_s11 hF_s11
            refine j_iload_n hx 1 dX12_sets_52 rfl ?_
            refine j_bipush hx dX12_sets_53 rfl ?_
            refine j_icmp_ge hx 76 dX12_sets_55 rfl (by omega) ⟨by decide, by decide⟩ (fun h10 => ?_) (fun h10 => ?_)
            · skip
              refine j_iconst hx dX12_sets_76 ?_
              refine j_istore_n hx [(1, .int (zI 0)), (0, .ref a)] dX12_sets_77 (by decide) rfl ?_
              have c78_15 : ∀ (m_c78_15 : Nat) (v11 : Int) (s16 : zS), 2147483648 - v11 < m_c78_15 → (0 ≤ v11 ∧ v11 ≤ 515) → (zSK G s16) → (zFr [84] G s11 s16) → (zAll s16 (gP G a 27) (v11).toNat 0) → JJ X E 4 G s16 0 0 [(0, .ref a), (1, .int (zI v11))] 78 [] := by
                intro m_c78_15
                induction m_c78_15 with
                | zero => intro v11 s16 hm_c78_15 fA17 hS_s16 hF_s16 hB1; exfalso; omega
                | succ m_c78_15 ih_c78_15 => 
                  intro v11 s16 hm_c78_15 fA17 hS_s16 hF_s16 hB1
                  refine j_iload_n hx 1 dX12_sets_78 rfl ?_
                  refine j_sipush hx dX12_sets_79 rfl ?_
                  refine j_icmp_ge hx 98 dX12_sets_82 rfl (by omega) ⟨by decide, by decide⟩ (fun h12 => ?_) (fun h12 => ?_)
                  · skip
                    have z13 := zAll_zc hB1 (by omega)
                    refine j_iconst hx dX12_sets_98 ?_
                    refine j_istore_n hx [(1, .int (zI 0)), (0, .ref a)] dX12_sets_99 (by decide) rfl ?_
                    refine j_iconst hx dX12_sets_100 ?_
                    refine j_istore_n hx [(2, .int (zI 0)), (1, .int (zI 0)), (0, .ref a)] dX12_sets_101 (by decide) rfl ?_
                    have g277 : s16 a 0 = s0 a 0 := (by rw [(zFr_g hF_s16 ha (by decide)), (zFr_g hF_s11 ha (by decide)), (zFr_g hF_s5 ha (by decide)), e_s3, zU_at (Or.inr (by decide)), e_s2, zU_at (Or.inr (by decide)), e_s1, zU_at (Or.inr (by decide))])
                    have f278 := zf hS0 ha (k := 0) rfl
                    have g279 : s16 a 3 = s0 a 3 := (by rw [(zFr_g hF_s16 ha (by decide)), (zFr_g hF_s11 ha (by decide)), (zFr_g hF_s5 ha (by decide)), e_s3, zU_at (Or.inr (by decide)), e_s2, zU_at (Or.inr (by decide)), e_s1, zU_at (Or.inr (by decide))])
                    have f280 := zf hS0 ha (k := 3) rfl
                    have g281 : s16 a 4 = s0 a 4 := (by rw [(zFr_g hF_s16 ha (by decide)), (zFr_g hF_s11 ha (by decide)), (zFr_g hF_s5 ha (by decide)), e_s3, zU_at (Or.inr (by decide)), e_s2, zU_at (Or.inr (by decide)), e_s1, zU_at (Or.inr (by decide))])
                    have f282 := zf hS0 ha (k := 4) rfl
                    have g283 : s16 a 5 = s0 a 5 := (by rw [(zFr_g hF_s16 ha (by decide)), (zFr_g hF_s11 ha (by decide)), (zFr_g hF_s5 ha (by decide)), e_s3, zU_at (Or.inr (by decide)), e_s2, zU_at (Or.inr (by decide)), e_s1, zU_at (Or.inr (by decide))])
                    have f284 := zf hS0 ha (k := 5) rfl
                    have g285 : s16 a 7 = s0 a 7 := (by rw [(zFr_g hF_s16 ha (by decide)), (zFr_g hF_s11 ha (by decide)), (zFr_g hF_s5 ha (by decide)), e_s3, zU_at (Or.inr (by decide)), e_s2, zU_at (Or.inr (by decide)), e_s1, zU_at (Or.inr (by decide))])
                    have f286 := zf hS0 ha (k := 7) rfl
                    have g287 : s16 a 21 = s0 a 21 := (by rw [(zFr_g hF_s16 ha (by decide)), (zFr_g hF_s11 ha (by decide)), (zFr_g hF_s5 ha (by decide)), e_s3, zU_at (Or.inr (by decide)), e_s2, zU_at (Or.inr (by decide)), e_s1, zU_at (Or.inr (by decide))])
                    have g288 : s16 a 22 = s0 a 22 := (by rw [(zFr_g hF_s16 ha (by decide)), (zFr_g hF_s11 ha (by decide)), (zFr_g hF_s5 ha (by decide)), e_s3, zU_at (Or.inr (by decide)), e_s2, zU_at (Or.inr (by decide)), e_s1, zU_at (Or.inr (by decide))])
                    have g289 : s16 a 23 = s0 a 23 := (by rw [(zFr_g hF_s16 ha (by decide)), (zFr_g hF_s11 ha (by decide)), (zFr_g hF_s5 ha (by decide)), e_s3, zU_at (Or.inr (by decide)), e_s2, zU_at (Or.inr (by decide)), e_s1, zU_at (Or.inr (by decide))])
                    have g290 : s16 a 38 = s0 a 38 := (by rw [(zFr_g hF_s16 ha (by decide)), (zFr_g hF_s11 ha (by decide)), (zFr_g hF_s5 ha (by decide)), e_s3, zU_at (Or.inr (by decide)), e_s2, zU_at (Or.inr (by decide)), e_s1, zU_at (Or.inr (by decide))])
                    have f291 := zf hS0 ha (k := 38) rfl
                    have g292 : s16 a 51 = s0 a 51 := (by rw [(zFr_g hF_s16 ha (by decide)), (zFr_g hF_s11 ha (by decide)), (zFr_g hF_s5 ha (by decide)), e_s3, zU_at (Or.inr (by decide)), e_s2, zU_at (Or.inr (by decide)), e_s1, zU_at (Or.inr (by decide))])
                    have f293 := zf hS0 ha (k := 51) rfl
                    have g294 : s16 a 52 = s0 a 52 := (by rw [(zFr_g hF_s16 ha (by decide)), (zFr_g hF_s11 ha (by decide)), (zFr_g hF_s5 ha (by decide)), e_s3, zU_at (Or.inr (by decide)), e_s2, zU_at (Or.inr (by decide)), e_s1, zU_at (Or.inr (by decide))])
                    have f295 := zf hS0 ha (k := 52) rfl
                    have g296 : s16 a 24 = (s0 a 21) := (by rw [(zFr_g hF_s16 ha (by decide)), (zFr_g hF_s11 ha (by decide)), (zFr_g hF_s5 ha (by decide)), e_s3, zU_at (Or.inr (by decide)), e_s2, zU_at (Or.inr (by decide)), e_s1, zU_eq])
                    exact j_sub [2, 1, 0] [(0, .ref a), (1, .int (zI 0)), (2, .int (zI 0))] rfl (x102_21 0 s16 (by omega) hS_s16 (zFr_t (zFr_t (zFr_t (zFr_u (zFr_u (zFr_u zFr_rf e_s1 ha (by decide)) e_s2 ha (by decide)) e_s3 ha (by decide)) hF_s5 (by decide)) hF_s11 (by decide)) hF_s16 (by decide)) (by omega) (by omega) (by omega) (by omega) (by omega) (by omega) (by omega) (by omega) (by omega) (by omega) (by omega) (by have q1 : s16 (gP G a 17) = s5 (gP G a 17) := (by rw [hF_s16 (gP G a 17) (by rw [(zr (k := 17) (t2 := 80) hG ha rfl)]; decide), hF_s11 (gP G a 17) (by rw [(zr (k := 17) (t2 := 80) hG ha rfl)]; decide)]); rw [q1]; exact (zQn_nn hP8 (by omega))) (by omega) (by omega) (by omega))
                  · skip
                    refine j_aload_n hx 0 dX12_sets_85 rfl ?_
                    refine g13_27 hx hG ha kf_RX12_56 dX12_sets_86 ?_
                    refine j_iload_n hx 1 dX12_sets_89 rfl ?_
                    refine j_iconst hx dX12_sets_90 ?_
                    refine j_iast hx hG (zr (k := 27) (t2 := 84) hG ha rfl) (by decide) rfl (zlen hG (zr (k := 27) (t2 := 84) hG ha rfl) (n := 515) rfl rfl) (by omega) (by omega) (j := (v11).toNat) rfl dX12_sets_91 ?_
                    obtain ⟨s202, e_s202⟩ : ∃ z, z = zU s16 (gP G a 27) (v11).toNat 0 := ⟨_, rfl⟩
                    rw [← e_s202]
                    have hS_s202 : zSK G s202 := by rw [e_s202]; exact zSK_z hS_s16 (zr (k := 27) (t2 := 84) hG ha rfl) (fun _ => rfl) rfl (fun k => ⟨_, rfl, (axS_h _).2.2.1, (axS_h _).2.2.2⟩) (by omega)
                    refine j_iinc hx 1 [(1, .int (zI (v11 + 1))), (0, .ref a)] dX12_sets_92 rfl (by omega) (by decide) rfl ?_
                    refine j_goto hx 78 dX12_sets_95 rfl ?_
                    exact j_sub [1, 0] [(0, .ref a), (1, .int (zI (v11 + 1)))] rfl (ih_c78_15 (v11 + 1) s202 (by omega) (by omega) hS_s202 (zFr_u (zFr_t zFr_rf hF_s16 (by decide)) e_s202 (zr (k := 27) (t2 := 84) hG ha rfl) (by decide)) (zAll_s hB1 e_s202 (by omega)))
              exact j_sub [1, 0] [(0, .ref a), (1, .int (zI 0))] rfl (c78_15 (2147483648 * 4) 0 s11 (by omega) (by omega) hS_s11 zFr_rf (fun j hj => absurd hj (by omega)))
            · skip
              refine j_aload_n hx 0 dX12_sets_58 rfl ?_
              refine g13_20 hx hG ha kf_RX12_53 dX12_sets_59 ?_
              refine j_iload_n hx 1 dX12_sets_62 rfl ?_
              refine j_aload_n hx 0 dX12_sets_63 rfl ?_
              refine g13_16 hx hG ha kf_RX12_41 dX12_sets_64 ?_
              refine j_iload_n hx 1 dX12_sets_67 rfl ?_
              have f298 := zaI (j := (v9).toNat) hS0 (zr (k := 16) (t2 := 79) hG ha rfl) rfl (zlen hG (zr (k := 16) (t2 := 79) hG ha rfl) (n := 12) rfl rfl) (show 0 ≤ v9 by omega) (by omega) rfl
              refine j_iald hx hG (zr (k := 16) (t2 := 79) hG ha rfl) (by decide) rfl (zlen hG (zr (k := 16) (t2 := 79) hG ha rfl) (n := 12) rfl rfl) (by omega) (by omega) (j := (v9).toNat) rfl (v := (s0 (gP G a 16) (v9).toNat)) (by rw [(zFr_g hF_s11 (zr (k := 16) (t2 := 79) hG ha rfl) (by decide)), (zFr_g hF_s5 (zr (k := 16) (t2 := 79) hG ha rfl) (by decide)), e_s3, zU_at (Or.inl (zne ha (zr (k := 16) (t2 := 79) hG ha rfl) (by decide))), e_s2, zU_at (Or.inl (zne ha (zr (k := 16) (t2 := 79) hG ha rfl) (by decide))), e_s1, zU_at (Or.inl (zne ha (zr (k := 16) (t2 := 79) hG ha rfl) (by decide)))]) dX12_sets_68 ?_
              refine j_iast hx hG (zr (k := 20) (t2 := 83) hG ha rfl) (by decide) rfl (zlen hG (zr (k := 20) (t2 := 83) hG ha rfl) (n := 12) rfl rfl) (by omega) (by omega) (j := (v9).toNat) rfl dX12_sets_69 ?_
              obtain ⟨s203, e_s203⟩ : ∃ z, z = zU s11 (gP G a 20) (v9).toNat ((s0 (gP G a 16) (v9).toNat)) := ⟨_, rfl⟩
              rw [← e_s203]
              have hS_s203 : zSK G s203 := by rw [e_s203]; exact zSK_A hS_s11 (zr (k := 20) (t2 := 83) hG ha rfl) rfl rfl rfl (by omega)
              refine j_iinc hx 1 [(1, .int (zI (v9 + 1))), (0, .ref a)] dX12_sets_70 rfl (by omega) (by decide) rfl ?_
              refine j_goto hx 52 dX12_sets_73 rfl ?_
              exact j_sub [1, 0] [(0, .ref a), (1, .int (zI (v9 + 1)))] rfl (ih_c52_10 (v9 + 1) s203 (by omega) (by omega) hS_s203 (zFr_u (zFr_t zFr_rf hF_s11 (by decide)) e_s203 (zr (k := 20) (t2 := 83) hG ha rfl) (by decide)))
        exact j_sub [1, 0] [(0, .ref a), (1, .int (zI 0))] rfl (c52_10 (2147483648 * 4) 0 s5 (by omega) (by omega) hS_s5 zFr_rf)
      · skip
        refine j_aload_n hx 0 dX12_sets_32 rfl ?_
        refine g13_17 hx hG ha kf_RX12_44 dX12_sets_33 ?_
        refine j_iload_n hx 1 dX12_sets_36 rfl ?_
        refine j_aload_n hx 0 dX12_sets_37 rfl ?_
        refine g13_10 hx hG ha kf_RX12_23 dX12_sets_38 ?_
        refine j_iload_n hx 1 dX12_sets_41 rfl ?_
        have f299 := zaI (j := (v4).toNat) hS0 (zr (k := 10) (t2 := 73) hG ha rfl) rfl (zlen hG (zr (k := 10) (t2 := 73) hG ha rfl) (n := 12) rfl rfl) (show 0 ≤ v4 by omega) (by omega) rfl
        refine j_iald hx hG (zr (k := 10) (t2 := 73) hG ha rfl) (by decide) rfl (zlen hG (zr (k := 10) (t2 := 73) hG ha rfl) (n := 12) rfl rfl) (by omega) (by omega) (j := (v4).toNat) rfl (v := (s0 (gP G a 10) (v4).toNat)) (by rw [(zFr_g hF_s5 (zr (k := 10) (t2 := 73) hG ha rfl) (by decide)), e_s3, zU_at (Or.inl (zne ha (zr (k := 10) (t2 := 73) hG ha rfl) (by decide))), e_s2, zU_at (Or.inl (zne ha (zr (k := 10) (t2 := 73) hG ha rfl) (by decide))), e_s1, zU_at (Or.inl (zne ha (zr (k := 10) (t2 := 73) hG ha rfl) (by decide)))]) dX12_sets_42 ?_
        refine j_iast hx hG (zr (k := 17) (t2 := 80) hG ha rfl) (by decide) rfl (zlen hG (zr (k := 17) (t2 := 80) hG ha rfl) (n := 12) rfl rfl) (by omega) (by omega) (j := (v4).toNat) rfl dX12_sets_43 ?_
        obtain ⟨s204, e_s204⟩ : ∃ z, z = zU s5 (gP G a 17) (v4).toNat ((s0 (gP G a 10) (v4).toNat)) := ⟨_, rfl⟩
        rw [← e_s204]
        have hS_s204 : zSK G s204 := by rw [e_s204]; exact zSK_A hS_s5 (zr (k := 17) (t2 := 80) hG ha rfl) rfl rfl rfl (by omega)
        refine j_iinc hx 1 [(1, .int (zI (v4 + 1))), (0, .ref a)] dX12_sets_44 rfl (by omega) (by decide) rfl ?_
        refine j_goto hx 26 dX12_sets_47 rfl ?_
        exact j_sub [1, 0] [(0, .ref a), (1, .int (zI (v4 + 1)))] rfl (ih_c26_4 (v4 + 1) s204 (by omega) (by omega) hS_s204 (zFr_u (zFr_t zFr_rf hF_s5 (by decide)) e_s204 (zr (k := 17) (t2 := 80) hG ha rfl) (by decide)) (zEq_s hE1 e_s204 (by omega) rfl))
  exact j_sub [1, 0] [(0, .ref a), (1, .int (zI 0))] rfl (c26_4 (2147483648 * 4) 0 s3 (by omega) (by omega) hS_s3 zFr_rf (zEq_0 (by omega)))
