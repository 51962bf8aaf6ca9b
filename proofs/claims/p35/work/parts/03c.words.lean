theorem inX0 : ∀ w ∈ wsX00, w ∈ tblG := fun w h => by
  have e : wsX00 = [229, 231, 233, 235, 237, 239, 241, 243, 245].filterMap (fun i => lw_tbl[i]?) := by decide +kernel
  have g : wsX00.all goodWord = true := by decide +kernel
  refine tg ?_ (List.all_eq_true.mp g w h)
  rw [e] at h
  obtain ⟨i, -, hi⟩ := List.mem_filterMap.mp h
  exact List.mem_of_getElem? hi
theorem inX1 : ∀ w ∈ wsX10, w ∈ tblG := fun w h => by
  have e : wsX10 = [296, 298, 300].filterMap (fun i => lw_tbl[i]?) := by decide +kernel
  have g : wsX10.all goodWord = true := by decide +kernel
  refine tg ?_ (List.all_eq_true.mp g w h)
  rw [e] at h
  obtain ⟨i, -, hi⟩ := List.mem_filterMap.mp h
  exact List.mem_of_getElem? hi
theorem inX2 : ∀ w ∈ wsX20, w ∈ tblG := fun w h => by
  have e : wsX20 = [391, 393, 395, 397, 399, 401, 403, 405].filterMap (fun i => lw_tbl[i]?) := by decide +kernel
  have g : wsX20.all goodWord = true := by decide +kernel
  refine tg ?_ (List.all_eq_true.mp g w h)
  rw [e] at h
  obtain ⟨i, -, hi⟩ := List.mem_filterMap.mp h
  exact List.mem_of_getElem? hi
theorem inX3 : ∀ w ∈ wsX30, w ∈ tblG := fun w h => by
  have e : wsX30 = [341, 343, 345, 347, 349, 351, 353, 355, 357, 359, 361, 363, 365, 367].filterMap (fun i => lw_tbl[i]?) := by decide +kernel
  have g : wsX30.all goodWord = true := by decide +kernel
  refine tg ?_ (List.all_eq_true.mp g w h)
  rw [e] at h
  obtain ⟨i, -, hi⟩ := List.mem_filterMap.mp h
  exact List.mem_of_getElem? hi
theorem inX4 : ∀ w ∈ wsX40, w ∈ tblG := fun w h => by
  have e : wsX40 = [464, 466, 468, 470, 472, 474].filterMap (fun i => lw_tbl[i]?) := by decide +kernel
  have g : wsX40.all goodWord = true := by decide +kernel
  refine tg ?_ (List.all_eq_true.mp g w h)
  rw [e] at h
  obtain ⟨i, -, hi⟩ := List.mem_filterMap.mp h
  exact List.mem_of_getElem? hi
theorem inX5 : ∀ w ∈ wsX50, w ∈ tblG := fun w h => by
  have e : wsX50 = [490, 492, 494].filterMap (fun i => lw_tbl[i]?) := by decide +kernel
  have g : wsX50.all goodWord = true := by decide +kernel
  refine tg ?_ (List.all_eq_true.mp g w h)
  rw [e] at h
  obtain ⟨i, -, hi⟩ := List.mem_filterMap.mp h
  exact List.mem_of_getElem? hi
theorem inX6 : ∀ w ∈ wsX60, w ∈ tblG := fun w h => by
  have e : wsX60 = [211, 213].filterMap (fun i => lw_tbl[i]?) := by decide +kernel
  have g : wsX60.all goodWord = true := by decide +kernel
  refine tg ?_ (List.all_eq_true.mp g w h)
  rw [e] at h
  obtain ⟨i, -, hi⟩ := List.mem_filterMap.mp h
  exact List.mem_of_getElem? hi
theorem inX7 : ∀ w ∈ wsX70, w ∈ tblG := fun w h => by
  have e : wsX70 = [281, 283].filterMap (fun i => lw_tbl[i]?) := by decide +kernel
  have g : wsX70.all goodWord = true := by decide +kernel
  refine tg ?_ (List.all_eq_true.mp g w h)
  rw [e] at h
  obtain ⟨i, -, hi⟩ := List.mem_filterMap.mp h
  exact List.mem_of_getElem? hi
theorem inX8 : ∀ w ∈ wsX80, w ∈ tblG := fun w h => by
  have e : wsX80 = [260, 262, 264, 266, 268, 270].filterMap (fun i => lw_tbl[i]?) := by decide +kernel
  have g : wsX80.all goodWord = true := by decide +kernel
  refine tg ?_ (List.all_eq_true.mp g w h)
  rw [e] at h
  obtain ⟨i, -, hi⟩ := List.mem_filterMap.mp h
  exact List.mem_of_getElem? hi
theorem inX9 : ∀ w ∈ wsX90, w ∈ tblG := fun w h => by
  have e : wsX90 = [172, 174, 176, 178, 180, 182].filterMap (fun i => lw_tbl[i]?) := by decide +kernel
  have g : wsX90.all goodWord = true := by decide +kernel
  refine tg ?_ (List.all_eq_true.mp g w h)
  rw [e] at h
  obtain ⟨i, -, hi⟩ := List.mem_filterMap.mp h
  exact List.mem_of_getElem? hi
theorem inX10 : ∀ w ∈ wsX100, w ∈ tblG := fun w h => by
  have e : wsX100 = [431, 433, 435, 437, 439, 441, 443, 445, 447].filterMap (fun i => lw_tbl[i]?) := by decide +kernel
  have g : wsX100.all goodWord = true := by decide +kernel
  refine tg ?_ (List.all_eq_true.mp g w h)
  rw [e] at h
  obtain ⟨i, -, hi⟩ := List.mem_filterMap.mp h
  exact List.mem_of_getElem? hi
theorem inX11 : ∀ w ∈ wsX110, w ∈ tblG := fun w h => by
  have e : wsX110 = [513, 515, 517, 519, 521, 523, 525, 527, 529, 531, 533, 535, 537, 539, 541, 543].filterMap (fun i => lw_tbl[i]?) := by decide +kernel
  have g : wsX110.all goodWord = true := by decide +kernel
  refine tg ?_ (List.all_eq_true.mp g w h)
  rw [e] at h
  obtain ⟨i, -, hi⟩ := List.mem_filterMap.mp h
  exact List.mem_of_getElem? hi
theorem inX12 : ∀ w ∈ wsX120, w ∈ tblG := fun w h => by
  have e : wsX120 = [1681, 1683, 1685, 1687, 1689, 1691, 1693, 1695, 1697, 1699, 1701, 1703, 1705, 1707, 1709, 1711, 1713, 1715, 1717, 1719, 1721, 1723, 1725, 1727, 1729, 1731, 1733, 1735, 1737, 1739, 1741, 1743, 1745, 1747, 1749, 1751, 1753, 1755, 1757, 1759, 1761, 1763, 1765, 1767, 1769, 1771, 1773, 1775, 1777, 1779, 1781, 1783, 1785, 1787, 1789, 1791, 1793, 1795, 1797].filterMap (fun i => lw_tbl[i]?) := by decide +kernel
  have g : wsX120.all goodWord = true := by decide +kernel
  refine tg ?_ (List.all_eq_true.mp g w h)
  rw [e] at h
  obtain ⟨i, -, hi⟩ := List.mem_filterMap.mp h
  exact List.mem_of_getElem? hi
