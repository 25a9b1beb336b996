/-! What the searches find, by the kernel. -/
theorem rTab_2 : rRes 2 = (1, 1, 1, 3, [1, 0]) := by
  have h : eR 2 60 1 0 (0, 0, 0, []) = (1, 1, 1, 3, [1, 0]) := by decide +kernel
  have e := eR_eq 2 60 1 0 (0, 0, 0, []) (by rw [h]; decide)
  rw [h] at e
  exact e.symm
theorem rTab_3 : rRes 3 = (3, 2, 4, 11, [3, 1, 0]) := by
  have h : eR 3 58 3 0 (0, 0, 0, []) = (3, 2, 4, 11, [3, 1, 0]) := by decide +kernel
  have e := eR_eq 3 58 3 0 (0, 0, 0, []) (by rw [h]; decide)
  rw [h] at e
  exact e.symm
theorem rTab_4 : rRes 4 = (6, 2, 19, 83, [6, 4, 1, 0]) := by
  have h : eR 4 55 6 0 (0, 0, 0, []) = (6, 2, 19, 83, [6, 4, 1, 0]) := by decide +kernel
  have e := eR_eq 4 55 6 0 (0, 0, 0, []) (by rw [h]; decide)
  rw [h] at e
  exact e.symm
theorem rTab_5 : rRes 5 = (11, 4, 259, 2579, [11, 9, 4, 1, 0]) := by
  have h : eR 5 51 10 0 (0, 0, 0, []) = (11, 4, 259, 2579, [11, 9, 4, 1, 0]) := by decide +kernel
  have e := eR_eq 5 51 10 0 (0, 0, 0, []) (by rw [h]; decide)
  rw [h] at e
  exact e.symm
theorem rTab_6 : rRes 6 = (17, 8, 2782, 136211, [17, 12, 10, 4, 1, 0]) := by
  have h : eR 6 46 15 0 (0, 0, 0, []) = (17, 8, 2782, 136211, [17, 12, 10, 4, 1, 0]) := by decide +kernel
  have e := eR_eq 6 46 15 0 (0, 0, 0, []) (by rw [h]; decide)
  rw [h] at e
  exact e.symm
theorem rTab_7 : rRes 7 = (25, 10, 40283, 42206227, [25, 23, 18, 10, 4, 1, 0]) := by
  have h : eR 7 40 21 0 (0, 0, 0, []) = (25, 10, 40283, 42206227, [25, 23, 18, 10, 4, 1, 0]) := by decide +kernel
  have e := eR_eq 7 40 21 0 (0, 0, 0, []) (by rw [h]; decide)
  rw [h] at e
  exact e.symm
theorem cTab_1 : cRes 1 = (2, 1, 0, 3, [0]) := by
  have h : fR 1 11 2 0 (0, 0, 0, []) = (2, 1, 0, 3, [0]) := by decide +kernel
  have e := fR_eq 1 11 2 0 (0, 0, 0, []) (by rw [h]; decide)
  rw [h] at e
  exact e.symm
theorem cTab_2 : cRes 2 = (3, 1, 1, 7, [1, 0]) := by
  have h : fR 2 11 2 0 (0, 0, 0, []) = (3, 1, 1, 7, [1, 0]) := by decide +kernel
  have e := fR_eq 2 11 2 0 (0, 0, 0, []) (by rw [h]; decide)
  rw [h] at e
  exact e.symm
theorem cTab_3 : cRes 3 = (3, 2, 2, 11, [1, 0]) := by
  have h : fR 3 11 2 0 (0, 0, 0, []) = (3, 2, 2, 11, [1, 0]) := by decide +kernel
  have e := fR_eq 3 11 2 0 (0, 0, 0, []) (by rw [h]; decide)
  rw [h] at e
  exact e.symm
theorem cTab_4 : cRes 4 = (4, 3, 6, 23, [2, 1, 0]) := by
  have h : fR 4 11 2 0 (0, 0, 0, []) = (4, 3, 6, 23, [2, 1, 0]) := by decide +kernel
  have e := fR_eq 4 11 2 0 (0, 0, 0, []) (by rw [h]; decide)
  rw [h] at e
  exact e.symm
theorem cTab_5 : cRes 5 = (4, 4, 10, 39, [2, 1, 0]) := by
  have h : fR 5 11 2 0 (0, 0, 0, []) = (4, 4, 10, 39, [2, 1, 0]) := by decide +kernel
  have e := fR_eq 5 11 2 0 (0, 0, 0, []) (by rw [h]; decide)
  rw [h] at e
  exact e.symm
theorem cTab_6 : cRes 6 = (4, 2, 13, 83, [4, 1, 0]) := by
  have h : fR 6 11 2 0 (0, 0, 0, []) = (4, 2, 13, 83, [4, 1, 0]) := by decide +kernel
  have e := fR_eq 6 11 2 0 (0, 0, 0, []) (by rw [h]; decide)
  rw [h] at e
  exact e.symm
theorem cTab_7 : cRes 7 = (5, 12, 41, 143, [3, 2, 1, 0]) := by
  have h : fR 7 11 2 0 (0, 0, 0, []) = (5, 12, 41, 143, [3, 2, 1, 0]) := by decide +kernel
  have e := fR_eq 7 11 2 0 (0, 0, 0, []) (by rw [h]; decide)
  rw [h] at e
  exact e.symm
theorem cTab_8 : cRes 8 = (5, 8, 63, 295, [5, 2, 1, 0]) := by
  have h : fR 8 11 2 0 (0, 0, 0, []) = (5, 8, 63, 295, [5, 2, 1, 0]) := by decide +kernel
  have e := fR_eq 8 11 2 0 (0, 0, 0, []) (by rw [h]; decide)
  rw [h] at e
  exact e.symm
theorem cTab_9 : cRes 9 = (5, 4, 86, 583, [6, 2, 1, 0]) := by
  have h : fR 9 11 2 0 (0, 0, 0, []) = (5, 4, 86, 583, [6, 2, 1, 0]) := by decide +kernel
  have e := fR_eq 9 11 2 0 (0, 0, 0, []) (by rw [h]; decide)
  rw [h] at e
  exact e.symm
theorem cTab_10 : cRes 10 = (6, 38, 330, 1103, [6, 3, 2, 1, 0]) := by
  have h : fR 10 11 2 0 (0, 0, 0, []) = (6, 38, 330, 1103, [6, 3, 2, 1, 0]) := by decide +kernel
  have e := fR_eq 10 11 2 0 (0, 0, 0, []) (by rw [h]; decide)
  rw [h] at e
  exact e.symm
theorem cTab_11 : cRes 11 = (6, 30, 385, 2191, [7, 3, 2, 1, 0]) := by
  have h : fR 11 11 2 0 (0, 0, 0, []) = (6, 30, 385, 2191, [7, 3, 2, 1, 0]) := by decide +kernel
  have e := fR_eq 11 11 2 0 (0, 0, 0, []) (by rw [h]; decide)
  rw [h] at e
  exact e.symm
theorem cTab_12 : cRes 12 = (6, 14, 526, 4367, [8, 3, 2, 1, 0]) := by
  have h : fR 12 11 2 0 (0, 0, 0, []) = (6, 14, 526, 4367, [8, 3, 2, 1, 0]) := by decide +kernel
  have e := fR_eq 12 11 2 0 (0, 0, 0, []) (by rw [h]; decide)
  rw [h] at e
  exact e.symm
theorem cTab_13 : cRes 13 = (6, 6, 702, 9287, [10, 6, 2, 1, 0]) := by
  have h : fR 13 11 2 0 (0, 0, 0, []) = (6, 6, 702, 9287, [10, 6, 2, 1, 0]) := by decide +kernel
  have e := fR_eq 13 11 2 0 (0, 0, 0, []) (by rw [h]; decide)
  rw [h] at e
  exact e.symm
theorem cTab_14 : cRes 14 = (7, 130, 3032, 16927, [9, 4, 3, 2, 1, 0]) := by
  have h : fR 14 11 2 0 (0, 0, 0, []) = (7, 130, 3032, 16927, [9, 4, 3, 2, 1, 0]) := by decide +kernel
  have e := fR_eq 14 11 2 0 (0, 0, 0, []) (by rw [h]; decide)
  rw [h] at e
  exact e.symm
theorem cTab_15 : cRes 15 = (7, 80, 3995, 33823, [10, 4, 3, 2, 1, 0]) := by
  have h : fR 15 11 2 0 (0, 0, 0, []) = (7, 80, 3995, 33823, [10, 4, 3, 2, 1, 0]) := by decide +kernel
  have e := fR_eq 15 11 2 0 (0, 0, 0, []) (by rw [h]; decide)
  rw [h] at e
  exact e.symm
theorem cTab_16 : cRes 16 = (7, 32, 4620, 69903, [12, 8, 3, 2, 1, 0]) := by
  have h : fR 16 11 2 0 (0, 0, 0, []) = (7, 32, 4620, 69903, [12, 8, 3, 2, 1, 0]) := by decide +kernel
  have e := fR_eq 16 11 2 0 (0, 0, 0, []) (by rw [h]; decide)
  rw [h] at e
  exact e.symm
theorem cTab_17 : cRes 17 = (7, 12, 6030, 139535, [13, 8, 3, 2, 1, 0]) := by
  have h : fR 17 11 2 0 (0, 0, 0, []) = (7, 12, 6030, 139535, [13, 8, 3, 2, 1, 0]) := by decide +kernel
  have e := fR_eq 17 11 2 0 (0, 0, 0, []) (by rw [h]; decide)
  rw [h] at e
  exact e.symm
theorem cTab_18 : cRes 18 = (8, 500, 27852, 266303, [12, 5, 4, 3, 2, 1, 0]) := by
  have h : fR 18 11 2 0 (0, 0, 0, []) = (8, 500, 27852, 266303, [12, 5, 4, 3, 2, 1, 0]) := by decide +kernel
  have e := fR_eq 18 11 2 0 (0, 0, 0, []) (by rw [h]; decide)
  rw [h] at e
  exact e.symm
theorem cTab_19 : cRes 19 = (8, 326, 37049, 541215, [14, 9, 4, 3, 2, 1, 0]) := by
  have h : fR 19 11 2 0 (0, 0, 0, []) = (8, 326, 37049, 541215, [14, 9, 4, 3, 2, 1, 0]) := by decide +kernel
  have e := fR_eq 19 11 2 0 (0, 0, 0, []) (by rw [h]; decide)
  rw [h] at e
  exact e.symm
theorem cTab_20 : cRes 20 = (8, 150, 45540, 1082399, [15, 10, 4, 3, 2, 1, 0]) := by
  have h : fR 20 11 2 0 (0, 0, 0, []) = (8, 150, 45540, 1082399, [15, 10, 4, 3, 2, 1, 0]) := by decide +kernel
  have e := fR_eq 20 11 2 0 (0, 0, 0, []) (by rw [h]; decide)
  rw [h] at e
  exact e.symm
