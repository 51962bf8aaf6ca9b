/-! the law's invariant, carried over a call (goes behind 13a) -/
theorem zInv_eq {G G2 : zG} {s s2 : zS} {m : Nat} {T T2 : Int} (h : zInv G s m T) (hT : T ≤ T2) (e27 : s2 (gP G2 m 27) = s (gP G m 27)) (e28 : s2 (gP G2 m 28) = s (gP G m 28)) (e34 : s2 (gP G2 m 34) = s (gP G m 34)) (e35 : s2 (gP G2 m 35) = s (gP G m 35)) (e37 : s2 (gP G2 m 37) = s (gP G m 37)) (e17 : s2 (gP G2 m 17) = s (gP G m 17)) (e24 : s2 m 24 = s m 24) (e55 : s2 (gP G2 m 55) = s (gP G m 55)) (e57 : s2 (gP G2 m 57) = s (gP G m 57)) : zInv G2 s2 m T2 := by
  obtain ⟨h1, h2, h3, h4, h5, h6, h7, h8, h9, h10, h11⟩ := h
  unfold zInv
  rw [e27, e28, e34, e35, e37, e17, e24, e55, e57]
  exact ⟨h1, h2, by omega, by omega, h5, h6, h7, h8, by omega, by omega, by omega⟩
theorem zInv_Xt {ts : List Nat} {G G2 : zG} {s s2 : zS} {m : Nat} {T T2 : Int} (h : zInv G s m T) (hT : T ≤ T2) (hG : zGK G) (hm : gT G m = 13) (hX : zXt ts G s G2 s2) (hts : ∀ t ∈ [80, 84, 85, 91, 92, 94, 104, 106], t ∉ ts) (e24 : s2 m 24 = s m 24) : zInv G2 s2 m T2 := by
  have em := hX m (by rw [hm]; decide)
  have r : ∀ k t, gT G (gP G m k) = t → t ≠ 0 → t ∉ ts → s2 (gP G2 m k) = s (gP G m k) := fun k t hk h0 hn => by
    rw [em.2.2.1 k]; exact (hX _ (by rw [hk]; exact h0)).2.2.2 (by rw [hk]; exact hn)
  exact zInv_eq h hT (r 27 84 (zr (k := 27) (t2 := 84) hG hm rfl) (by decide) (hts 84 (by decide))) (r 28 85 (zr (k := 28) (t2 := 85) hG hm rfl) (by decide) (hts 85 (by decide))) (r 34 91 (zr (k := 34) (t2 := 91) hG hm rfl) (by decide) (hts 91 (by decide))) (r 35 92 (zr (k := 35) (t2 := 92) hG hm rfl) (by decide) (hts 92 (by decide))) (r 37 94 (zr (k := 37) (t2 := 94) hG hm rfl) (by decide) (hts 94 (by decide))) (r 17 80 (zr (k := 17) (t2 := 80) hG hm rfl) (by decide) (hts 80 (by decide))) e24 (r 55 104 (zr (k := 55) (t2 := 104) hG hm rfl) (by decide) (hts 104 (by decide))) (r 57 106 (zr (k := 57) (t2 := 106) hG hm rfl) (by decide) (hts 106 (by decide)))
theorem zInv_fr {ts : List Nat} {G : zG} {s s2 : zS} {m : Nat} {T T2 : Int} (h : zInv G s m T) (hT : T ≤ T2) (hG : zGK G) (hm : gT G m = 13) (hF : zFr ts G s s2) (hts : ∀ t ∈ [80, 84, 85, 91, 92, 94, 104, 106], t ∉ ts) (e24 : s2 m 24 = s m 24) : zInv G s2 m T2 := zInv_Xt h hT hG hm (zXt_fr hF) hts e24
