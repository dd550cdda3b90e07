/-! meets, dark -/
/-- the owner of star j on night d -/
def owS (n cnt : Nat) (sa sp ld : Nat → Nat) (j d : Nat) : Int32 := own n ld (sqN n (sa j) (sp j) d) d cnt 0
def meetF (n cnt : Nat) (sa sp ld : Nat → Nat) (t j : Nat) : Nat → Nat → Int32
  | 0, _ => -9
  | r + 1, d => if owS n cnt sa sp ld j d = nI t then nI d else meetF n cnt sa sp ld t j r (d + 1)
theorem x_meets {n ns nt cnt : Nat} {sa sp sb ld : Nat → Nat} {sq st te : Int32} {starts paces brights : Nat → Int32} {msq mst mte : Int32} {ms : Nat → Int32} {lsize : Int32} {lp s : Nat → Int32} (hS : gS n ns nt sa sp sb sq st te starts paces brights msq mst mte ms) (hL : gL n nt cnt ld lsize lp s) {t j : Nat} (hj : j < ns) : ∀ (r d nn : Nat), d + r = 100 → r < nn → f_X8_meets_b37 (nI n) (nI ns) paces starts (nI cnt) lp (nI t) (nI j) nn (nI d) = some (meetF n cnt sa sp ld t j r d) := by
  obtain ⟨b1, b2, b3, b4, -, -, -, -, -, -, hst⟩ := id hS
  have ha := (hst j hj).1
  intro r
  induction r with
  | zero =>
    intro d nn hd hnn
    obtain ⟨m, rfl⟩ : ∃ m, nn = m + 1 := ⟨nn - 1, by omega⟩
    rw [f_X8_meets_b37, meetF]
    (repeat (simp (disch := omega) only [li_0, li_1, li_2, li_3, li_4, li_5, li_6, li_7, li_8, li_9, li_10, li_11, li_12, li_13, li_14, li_15, li_16, li_17, li_18, li_19, li_20, li_21, li_22, li_23, li_24, li_25, li_26, li_27, li_28, li_29, li_30, li_31, li_32, li_34, li_35, li_40, li_41, li_45, li_48, li_49, li_50, li_57, li_58, li_59, li_60, li_61, li_64, li_65, li_97, li_99, li_100, li_115, li_116, li_121, li_122, li_200, li_255, li_256, li_300, li_999, li_1000, li_12345, li_65535, li_1103515245, if_true, if_false, nI_add, pk_mul, pk_sub, s_div, s_rem, s_cl, p_le_t, p_le_f, p_lt_t, p_lt_f, p_eq_t, p_eq_f, bd1_s, bd2_s, bd3_s, nm_s, gd_t, gd_in, gd_nz, gd_bz0, gd_bz1, gd_cp]))
  | succ r ih =>
    intro d nn hd hnn
    obtain ⟨m, rfl⟩ : ∃ m, nn = m + 1 := ⟨nn - 1, by omega⟩
    have e1 := x_squareOf hS hj (d := d) (by omega)
    have e2 := x_ownerOf b2 hL (sqN_lt (p := sp j) (d := d) ha) (d := d) (by omega)
    have e3 := ih (d + 1) m (by omega) (by omega)
    rw [f_X8_meets_b37, meetF]
    unfold owS
    (repeat (simp (disch := omega) only [li_0, li_1, li_2, li_3, li_4, li_5, li_6, li_7, li_8, li_9, li_10, li_11, li_12, li_13, li_14, li_15, li_16, li_17, li_18, li_19, li_20, li_21, li_22, li_23, li_24, li_25, li_26, li_27, li_28, li_29, li_30, li_31, li_32, li_34, li_35, li_40, li_41, li_45, li_48, li_49, li_50, li_57, li_58, li_59, li_60, li_61, li_64, li_65, li_97, li_99, li_100, li_115, li_116, li_121, li_122, li_200, li_255, li_256, li_300, li_999, li_1000, li_12345, li_65535, li_1103515245, if_true, if_false, nI_add, pk_mul, pk_sub, s_div, s_rem, s_cl, p_le_t, p_le_f, p_lt_t, p_lt_f, p_eq_t, p_eq_f, bd1_s, bd2_s, bd3_s, nm_s, gd_t, gd_in, gd_nz, gd_bz0, gd_bz1, gd_cp, e1, e2, e3]))
    by_cases h : own n ld (sqN n (sa j) (sp j) d) d cnt 0 = nI t
    · rw [if_pos h, if_pos h]
    · rw [if_neg h, if_neg h]
theorem m_meets {n ns nt cnt : Nat} {sa sp sb ld : Nat → Nat} {sq st te : Int32} {starts paces brights : Nat → Int32} {msq mst mte : Int32} {ms : Nat → Int32} {lsize : Int32} {lp s : Nat → Int32} (hS : gS n ns nt sa sp sb sq st te starts paces brights msq mst mte ms) (hL : gL n nt cnt ld lsize lp s) {t j : Nat} (hj : j < ns) (th : Int32) : ∀ (r d nn : Nat), d + r = 100 → r < nn → f_X9_meets_b33 (nI n) ms s (nI t) (nI j) th nn (nI d) = some (meetF n cnt sa sp ld t j r d, th) := by
  obtain ⟨b1, b2, b3, b4, -, -, -, -, -, -, hst⟩ := id hS
  have ha := (hst j hj).1
  intro r
  induction r with
  | zero =>
    intro d nn hd hnn
    obtain ⟨m, rfl⟩ : ∃ m, nn = m + 1 := ⟨nn - 1, by omega⟩
    rw [f_X9_meets_b33, meetF]
    (repeat (simp (disch := omega) only [li_0, li_1, li_2, li_3, li_4, li_5, li_6, li_7, li_8, li_9, li_10, li_11, li_12, li_13, li_14, li_15, li_16, li_17, li_18, li_19, li_20, li_21, li_22, li_23, li_24, li_25, li_26, li_27, li_28, li_29, li_30, li_31, li_32, li_34, li_35, li_40, li_41, li_45, li_48, li_49, li_50, li_57, li_58, li_59, li_60, li_61, li_64, li_65, li_97, li_99, li_100, li_115, li_116, li_121, li_122, li_200, li_255, li_256, li_300, li_999, li_1000, li_12345, li_65535, li_1103515245, if_true, if_false, nI_add, pk_mul, pk_sub, s_div, s_rem, s_cl, p_le_t, p_le_f, p_lt_t, p_lt_f, p_eq_t, p_eq_f, bd1_s, bd2_s, bd3_s, nm_s, gd_t, gd_in, gd_nz, gd_bz0, gd_bz1, gd_cp]))
  | succ r ih =>
    intro d nn hd hnn
    obtain ⟨m, rfl⟩ : ∃ m, nn = m + 1 := ⟨nn - 1, by omega⟩
    have e1 := m_squareOf hS hj (d := d) (by omega)
    have e2 := m_whoseIs b2 hL (sqN_lt (p := sp j) (d := d) ha) (d := d) (by omega)
    have e3 := ih (d + 1) m (by omega) (by omega)
    rw [f_X9_meets_b33, meetF]
    unfold owS
    (repeat (simp (disch := omega) only [li_0, li_1, li_2, li_3, li_4, li_5, li_6, li_7, li_8, li_9, li_10, li_11, li_12, li_13, li_14, li_15, li_16, li_17, li_18, li_19, li_20, li_21, li_22, li_23, li_24, li_25, li_26, li_27, li_28, li_29, li_30, li_31, li_32, li_34, li_35, li_40, li_41, li_45, li_48, li_49, li_50, li_57, li_58, li_59, li_60, li_61, li_64, li_65, li_97, li_99, li_100, li_115, li_116, li_121, li_122, li_200, li_255, li_256, li_300, li_999, li_1000, li_12345, li_65535, li_1103515245, if_true, if_false, nI_add, pk_mul, pk_sub, s_div, s_rem, s_cl, p_le_t, p_le_f, p_lt_t, p_lt_f, p_eq_t, p_eq_f, bd1_s, bd2_s, bd3_s, nm_s, gd_t, gd_in, gd_nz, gd_bz0, gd_bz1, gd_cp, e1, e2, e3]))
    by_cases h : own n ld (sqN n (sa j) (sp j) d) d cnt 0 = nI t
    · rw [if_pos h, if_pos h]
    · rw [if_neg h, if_neg h]
theorem pm_meets (v : Nat → Int32) (r : Nat → Nat → Int32) (t : Int64) (vm : Nat → Int32) (rm : Nat → Nat → Int32) (tm : Int64) (hI : Inv v r t vm rm tm) (g1 : Int32) (g2 : Int32) (g3 : Int32) : ∃ (R0 : Int32) (z0 : Int32), f_X8_meets (v 5) (v 6) (v 7) (r 3) (r 2) (v 18) (r 13) g1 g2 g3 = some R0 ∧ f_X9_meets (vm 0) (vm 7) (vm 8) (vm 9) (rm 1) (rm 4) g1 g2 g3 = some (R0, z0) ∧ Inv v r t (upd vm 0 z0) rm tm := by
  obtain ⟨n, ns, nt, sa, sp, sb, hS, hT, hN, hI0, hI1, hO, hEe, htr, m8, m13, m17, m19, m33⟩ := id hI
  obtain ⟨b1, b2, b3, b4, s1, s2, s3, s4, s5, s6, hst⟩ := id hS
  obtain ⟨⟨d0, hd0, n1, n2⟩, n3, n4, cnt, un, ld, ub, uk, ud, cn, hL, hU⟩ := id hN
  obtain ⟨l1, l2, l3, l4, l5⟩ := id hL
  unfold f_X8_meets f_X9_meets
  rw [l2, s1, s2, s3, s4, s5, s6]
  simp only [li_0, li_1, li_2, li_3, li_4, li_5, li_6, li_7, li_8, li_9, li_10, li_11, li_12, li_13, li_14, li_15, li_16, li_17, li_18, li_19, li_20, li_21, li_22, li_23, li_24, li_25, li_26, li_27, li_28, li_29, li_30, li_31, li_32, li_34, li_35, li_40, li_41, li_45, li_48, li_49, li_50, li_57, li_58, li_59, li_60, li_61, li_64, li_65, li_97, li_99, li_100, li_115, li_116, li_121, li_122, li_200, li_255, li_256, li_300, li_999, li_1000, li_12345, li_65535, li_1103515245]
  rcases num_cases g1 nt (by omega) with ho | ⟨t', ht, rfl⟩
  · exact ⟨-1, nI 0, by rw [ten_out ho]; (repeat (simp (disch := omega) only [li_0, li_1, li_2, li_3, li_4, li_5, li_6, li_7, li_8, li_9, li_10, li_11, li_12, li_13, li_14, li_15, li_16, li_17, li_18, li_19, li_20, li_21, li_22, li_23, li_24, li_25, li_26, li_27, li_28, li_29, li_30, li_31, li_32, li_34, li_35, li_40, li_41, li_45, li_48, li_49, li_50, li_57, li_58, li_59, li_60, li_61, li_64, li_65, li_97, li_99, li_100, li_115, li_116, li_121, li_122, li_200, li_255, li_256, li_300, li_999, li_1000, li_12345, li_65535, li_1103515245, if_true, if_false, nI_add, pk_mul, pk_sub, s_div, s_rem, s_cl, p_le_t, p_le_f, p_lt_t, p_lt_f, p_eq_t, p_eq_f, bd1_s, bd2_s, bd3_s, nm_s, gd_t, gd_in, gd_nz, gd_bz0, gd_bz1, gd_cp])), by rw [mTen_out (by omega) ho]; (repeat (simp (disch := omega) only [li_0, li_1, li_2, li_3, li_4, li_5, li_6, li_7, li_8, li_9, li_10, li_11, li_12, li_13, li_14, li_15, li_16, li_17, li_18, li_19, li_20, li_21, li_22, li_23, li_24, li_25, li_26, li_27, li_28, li_29, li_30, li_31, li_32, li_34, li_35, li_40, li_41, li_45, li_48, li_49, li_50, li_57, li_58, li_59, li_60, li_61, li_64, li_65, li_97, li_99, li_100, li_115, li_116, li_121, li_122, li_200, li_255, li_256, li_300, li_999, li_1000, li_12345, li_65535, li_1103515245, if_true, if_false, nI_add, pk_mul, pk_sub, s_div, s_rem, s_cl, p_le_t, p_le_f, p_lt_t, p_lt_f, p_eq_t, p_eq_f, bd1_s, bd2_s, bd3_s, nm_s, gd_t, gd_in, gd_nz, gd_bz0, gd_bz1, gd_cp])), inv_thrown hI _⟩
  rw [ten_in ht (by omega), mTen_in ht (by omega)]
  rcases num_cases g2 ns (by omega) with ho | ⟨j, hj, rfl⟩
  · exact ⟨-1, nI 0, by rw [star_out ho]; (repeat (simp (disch := omega) only [li_0, li_1, li_2, li_3, li_4, li_5, li_6, li_7, li_8, li_9, li_10, li_11, li_12, li_13, li_14, li_15, li_16, li_17, li_18, li_19, li_20, li_21, li_22, li_23, li_24, li_25, li_26, li_27, li_28, li_29, li_30, li_31, li_32, li_34, li_35, li_40, li_41, li_45, li_48, li_49, li_50, li_57, li_58, li_59, li_60, li_61, li_64, li_65, li_97, li_99, li_100, li_115, li_116, li_121, li_122, li_200, li_255, li_256, li_300, li_999, li_1000, li_12345, li_65535, li_1103515245, if_true, if_false, nI_add, pk_mul, pk_sub, s_div, s_rem, s_cl, p_le_t, p_le_f, p_lt_t, p_lt_f, p_eq_t, p_eq_f, bd1_s, bd2_s, bd3_s, nm_s, gd_t, gd_in, gd_nz, gd_bz0, gd_bz1, gd_cp])), by rw [mStar_out (by omega) ho]; (repeat (simp (disch := omega) only [li_0, li_1, li_2, li_3, li_4, li_5, li_6, li_7, li_8, li_9, li_10, li_11, li_12, li_13, li_14, li_15, li_16, li_17, li_18, li_19, li_20, li_21, li_22, li_23, li_24, li_25, li_26, li_27, li_28, li_29, li_30, li_31, li_32, li_34, li_35, li_40, li_41, li_45, li_48, li_49, li_50, li_57, li_58, li_59, li_60, li_61, li_64, li_65, li_97, li_99, li_100, li_115, li_116, li_121, li_122, li_200, li_255, li_256, li_300, li_999, li_1000, li_12345, li_65535, li_1103515245, if_true, if_false, nI_add, pk_mul, pk_sub, s_div, s_rem, s_cl, p_le_t, p_le_f, p_lt_t, p_lt_f, p_eq_t, p_eq_f, bd1_s, bd2_s, bd3_s, nm_s, gd_t, gd_in, gd_nz, gd_bz0, gd_bz1, gd_cp])), inv_thrown hI _⟩
  rw [star_in hj (by omega), mStar_in hj (by omega)]
  rcases num_cases g3 100 (by decide) with ho | ⟨d, hd, rfl⟩
  · exact ⟨-1, nI 0, by rw [wi_out (by decide) (by decide) ho]; (repeat (simp (disch := omega) only [li_0, li_1, li_2, li_3, li_4, li_5, li_6, li_7, li_8, li_9, li_10, li_11, li_12, li_13, li_14, li_15, li_16, li_17, li_18, li_19, li_20, li_21, li_22, li_23, li_24, li_25, li_26, li_27, li_28, li_29, li_30, li_31, li_32, li_34, li_35, li_40, li_41, li_45, li_48, li_49, li_50, li_57, li_58, li_59, li_60, li_61, li_64, li_65, li_97, li_99, li_100, li_115, li_116, li_121, li_122, li_200, li_255, li_256, li_300, li_999, li_1000, li_12345, li_65535, li_1103515245, if_true, if_false, nI_add, pk_mul, pk_sub, s_div, s_rem, s_cl, p_le_t, p_le_f, p_lt_t, p_lt_f, p_eq_t, p_eq_f, bd1_s, bd2_s, bd3_s, nm_s, gd_t, gd_in, gd_nz, gd_bz0, gd_bz1, gd_cp])), by rw [mNight_out ho]; (repeat (simp (disch := omega) only [li_0, li_1, li_2, li_3, li_4, li_5, li_6, li_7, li_8, li_9, li_10, li_11, li_12, li_13, li_14, li_15, li_16, li_17, li_18, li_19, li_20, li_21, li_22, li_23, li_24, li_25, li_26, li_27, li_28, li_29, li_30, li_31, li_32, li_34, li_35, li_40, li_41, li_45, li_48, li_49, li_50, li_57, li_58, li_59, li_60, li_61, li_64, li_65, li_97, li_99, li_100, li_115, li_116, li_121, li_122, li_200, li_255, li_256, li_300, li_999, li_1000, li_12345, li_65535, li_1103515245, if_true, if_false, nI_add, pk_mul, pk_sub, s_div, s_rem, s_cl, p_le_t, p_le_f, p_lt_t, p_lt_f, p_eq_t, p_eq_f, bd1_s, bd2_s, bd3_s, nm_s, gd_t, gd_in, gd_nz, gd_bz0, gd_bz1, gd_cp])), inv_thrown hI _⟩
  have e1 := x_meets hS hL (t := t') hj (100 - d) d zF (by omega) (by unfold zF; omega)
  have e2 := m_meets hS hL (t := t') hj (nI 0) (100 - d) d zF (by omega) (by unfold zF; omega)
  exact ⟨meetF n cnt sa sp ld t' j (100 - d) d, nI 0, by rw [wi_in (a := 0) (c := 99) (show 0 ≤ d by omega) (by omega) (by decide)]; (repeat (simp (disch := omega) only [li_0, li_1, li_2, li_3, li_4, li_5, li_6, li_7, li_8, li_9, li_10, li_11, li_12, li_13, li_14, li_15, li_16, li_17, li_18, li_19, li_20, li_21, li_22, li_23, li_24, li_25, li_26, li_27, li_28, li_29, li_30, li_31, li_32, li_34, li_35, li_40, li_41, li_45, li_48, li_49, li_50, li_57, li_58, li_59, li_60, li_61, li_64, li_65, li_97, li_99, li_100, li_115, li_116, li_121, li_122, li_200, li_255, li_256, li_300, li_999, li_1000, li_12345, li_65535, li_1103515245, if_true, if_false, nI_add, pk_mul, pk_sub, s_div, s_rem, s_cl, p_le_t, p_le_f, p_lt_t, p_lt_f, p_eq_t, p_eq_f, bd1_s, bd2_s, bd3_s, nm_s, gd_t, gd_in, gd_nz, gd_bz0, gd_bz1, gd_cp, e1])), by rw [mNight_in hd]; (repeat (simp (disch := omega) only [li_0, li_1, li_2, li_3, li_4, li_5, li_6, li_7, li_8, li_9, li_10, li_11, li_12, li_13, li_14, li_15, li_16, li_17, li_18, li_19, li_20, li_21, li_22, li_23, li_24, li_25, li_26, li_27, li_28, li_29, li_30, li_31, li_32, li_34, li_35, li_40, li_41, li_45, li_48, li_49, li_50, li_57, li_58, li_59, li_60, li_61, li_64, li_65, li_97, li_99, li_100, li_115, li_116, li_121, li_122, li_200, li_255, li_256, li_300, li_999, li_1000, li_12345, li_65535, li_1103515245, if_true, if_false, nI_add, pk_mul, pk_sub, s_div, s_rem, s_cl, p_le_t, p_le_f, p_lt_t, p_lt_f, p_eq_t, p_eq_f, bd1_s, bd2_s, bd3_s, nm_s, gd_t, gd_in, gd_nz, gd_bz0, gd_bz1, gd_cp, e2])), inv_thrown hI _⟩
/-- a lease of t holds on d: of those from k on -/
def hasL (ld : Nat → Nat) (t d : Nat) : Nat → Nat → Bool
  | 0, _ => false
  | r + 1, k => (decide (ld (5 * k) = t) && (decide (ld (5 * k + 3) ≤ d) && decide (d ≤ ld (5 * k + 4)))) || hasL ld t d r (k + 1)
theorem x_hasL {n nt cnt : Nat} {ld : Nat → Nat} {lsize : Int32} {lp s : Nat → Int32} (hL : gL n nt cnt ld lsize lp s) (hnt : nt ≤ 4) {t d : Nat} (ht : t < 4) (hd : d < 1000000) : ∀ (r k nn : Nat), k + r = cnt → r < nn → f_X6_anyHolds_b2 (nI cnt) lp (nI t) (nI d) nn (nI k) = some (bI (hasL ld t d r k)) := by
  obtain ⟨l1, l2, l3, l4, l5⟩ := id hL
  intro r
  induction r with
  | zero =>
    intro k nn hk hnn
    obtain ⟨m, rfl⟩ : ∃ m, nn = m + 1 := ⟨nn - 1, by omega⟩
    rw [f_X6_anyHolds_b2, hasL]
    (repeat (simp (disch := omega) only [li_0, li_1, li_2, li_3, li_4, li_5, li_6, li_7, li_8, li_9, li_10, li_11, li_12, li_13, li_14, li_15, li_16, li_17, li_18, li_19, li_20, li_21, li_22, li_23, li_24, li_25, li_26, li_27, li_28, li_29, li_30, li_31, li_32, li_34, li_35, li_40, li_41, li_45, li_48, li_49, li_50, li_57, li_58, li_59, li_60, li_61, li_64, li_65, li_97, li_99, li_100, li_115, li_116, li_121, li_122, li_200, li_255, li_256, li_300, li_999, li_1000, li_12345, li_65535, li_1103515245, if_true, if_false, nI_add, pk_mul, pk_sub, s_div, s_rem, s_cl, p_le_t, p_le_f, p_lt_t, p_lt_f, p_eq_t, p_eq_f, bd1_s, bd2_s, bd3_s, nm_s, gd_t, gd_in, gd_nz, gd_bz0, gd_bz1, gd_cp, bI_f]))
  | succ r ih =>
    intro k nn hk hnn
    obtain ⟨m, rfl⟩ : ∃ m, nn = m + 1 := ⟨nn - 1, by omega⟩
    obtain ⟨o1, o2, o3, o4, o5, o6⟩ := l5 k (by omega)
    have e1 := x_part0 hL (e := 0) (show k < cnt by omega) (by decide)
    have e2 := x_holds hL (show k < cnt by omega) hd
    have e3 := ih (k + 1) m (by omega) (by omega)
    rw [f_X6_anyHolds_b2, hasL]
    unfold f_X6_anyHolds_b31
    (repeat (simp (disch := omega) only [li_0, li_1, li_2, li_3, li_4, li_5, li_6, li_7, li_8, li_9, li_10, li_11, li_12, li_13, li_14, li_15, li_16, li_17, li_18, li_19, li_20, li_21, li_22, li_23, li_24, li_25, li_26, li_27, li_28, li_29, li_30, li_31, li_32, li_34, li_35, li_40, li_41, li_45, li_48, li_49, li_50, li_57, li_58, li_59, li_60, li_61, li_64, li_65, li_97, li_99, li_100, li_115, li_116, li_121, li_122, li_200, li_255, li_256, li_300, li_999, li_1000, li_12345, li_65535, li_1103515245, if_true, if_false, nI_add, pk_mul, pk_sub, s_div, s_rem, s_cl, p_le_t, p_le_f, p_lt_t, p_lt_f, p_eq_t, p_eq_f, bd1_s, bd2_s, bd3_s, nm_s, gd_t, gd_in, gd_nz, gd_bz0, gd_bz1, gd_cp, e1, e2, e3, Nat.add_zero]))
    by_cases h : ld (5 * k) = t
    · rw [decide_eq_true h]
      cases decide (ld (5 * k + 3) ≤ d) && decide (d ≤ ld (5 * k + 4)) <;> (repeat (simp (disch := omega) only [li_0, li_1, li_2, li_3, li_4, li_5, li_6, li_7, li_8, li_9, li_10, li_11, li_12, li_13, li_14, li_15, li_16, li_17, li_18, li_19, li_20, li_21, li_22, li_23, li_24, li_25, li_26, li_27, li_28, li_29, li_30, li_31, li_32, li_34, li_35, li_40, li_41, li_45, li_48, li_49, li_50, li_57, li_58, li_59, li_60, li_61, li_64, li_65, li_97, li_99, li_100, li_115, li_116, li_121, li_122, li_200, li_255, li_256, li_300, li_999, li_1000, li_12345, li_65535, li_1103515245, if_true, if_false, nI_add, pk_mul, pk_sub, s_div, s_rem, s_cl, p_le_t, p_le_f, p_lt_t, p_lt_f, p_eq_t, p_eq_f, bd1_s, bd2_s, bd3_s, nm_s, gd_t, gd_in, gd_nz, gd_bz0, gd_bz1, gd_cp, bI_t, bI_f, Bool.and_true, Bool.and_false, Bool.true_or, Bool.false_or, Bool.and_self]))
    · rw [decide_eq_false h]
      (repeat (simp (disch := omega) only [li_0, li_1, li_2, li_3, li_4, li_5, li_6, li_7, li_8, li_9, li_10, li_11, li_12, li_13, li_14, li_15, li_16, li_17, li_18, li_19, li_20, li_21, li_22, li_23, li_24, li_25, li_26, li_27, li_28, li_29, li_30, li_31, li_32, li_34, li_35, li_40, li_41, li_45, li_48, li_49, li_50, li_57, li_58, li_59, li_60, li_61, li_64, li_65, li_97, li_99, li_100, li_115, li_116, li_121, li_122, li_200, li_255, li_256, li_300, li_999, li_1000, li_12345, li_65535, li_1103515245, if_true, if_false, nI_add, pk_mul, pk_sub, s_div, s_rem, s_cl, p_le_t, p_le_f, p_lt_t, p_lt_f, p_eq_t, p_eq_f, bd1_s, bd2_s, bd3_s, nm_s, gd_t, gd_in, gd_nz, gd_bz0, gd_bz1, gd_cp, Bool.false_and, Bool.false_or]))
theorem m_hasL {n nt cnt : Nat} {ld : Nat → Nat} {lsize : Int32} {lp s : Nat → Int32} (hL : gL n nt cnt ld lsize lp s) (hnt : nt ≤ 4) {t d : Nat} (ht : t < 4) (hd : d < 1000000) : ∀ (r k nn : Nat) (acc : Bool), k + r = cnt → r < nn → f_X9_hasLease_b5 s (nI t) (nI d) nn (bI acc) (nI k) = some (bI (acc || hasL ld t d r k)) := by
  obtain ⟨l1, l2, l3, l4, l5⟩ := id hL
  intro r
  induction r with
  | zero =>
    intro k nn acc hk hnn
    obtain ⟨m, rfl⟩ : ∃ m, nn = m + 1 := ⟨nn - 1, by omega⟩
    rw [f_X9_hasLease_b5, hasL]
    cases acc <;> (repeat (simp (disch := omega) only [li_0, li_1, li_2, li_3, li_4, li_5, li_6, li_7, li_8, li_9, li_10, li_11, li_12, li_13, li_14, li_15, li_16, li_17, li_18, li_19, li_20, li_21, li_22, li_23, li_24, li_25, li_26, li_27, li_28, li_29, li_30, li_31, li_32, li_34, li_35, li_40, li_41, li_45, li_48, li_49, li_50, li_57, li_58, li_59, li_60, li_61, li_64, li_65, li_97, li_99, li_100, li_115, li_116, li_121, li_122, li_200, li_255, li_256, li_300, li_999, li_1000, li_12345, li_65535, li_1103515245, if_true, if_false, nI_add, pk_mul, pk_sub, s_div, s_rem, s_cl, p_le_t, p_le_f, p_lt_t, p_lt_f, p_eq_t, p_eq_f, bd1_s, bd2_s, bd3_s, nm_s, gd_t, gd_in, gd_nz, gd_bz0, gd_bz1, gd_cp, l3, bI_f, bI_t, Bool.or_false]))
  | succ r ih =>
    intro k nn acc hk hnn
    obtain ⟨m, rfl⟩ : ∃ m, nn = m + 1 := ⟨nn - 1, by omega⟩
    obtain ⟨o1, o2, o3, o4, o5, o6⟩ := l5 k (by omega)
    have e0 := (gL_x hL (show k < cnt by omega) (show 0 < 5 by decide)).2
    have e3 := (gL_x hL (show k < cnt by omega) (show 3 < 5 by decide)).2
    have e4 := (gL_x hL (show k < cnt by omega) (show 4 < 5 by decide)).2
    simp only [Nat.add_zero] at e0
    have i1 := ih (k + 1) m true (by omega) (by omega)
    have i0 := ih (k + 1) m false (by omega) (by omega)
    rw [bI_t] at i1
    rw [bI_f] at i0
    rw [f_X9_hasLease_b5, hasL]
    unfold f_X9_hasLease_b76 f_X9_hasLease_b72 f_X9_hasLease_b77
    rw [in_eq]
    cases acc with
    | true => (repeat (simp (disch := omega) only [li_0, li_1, li_2, li_3, li_4, li_5, li_6, li_7, li_8, li_9, li_10, li_11, li_12, li_13, li_14, li_15, li_16, li_17, li_18, li_19, li_20, li_21, li_22, li_23, li_24, li_25, li_26, li_27, li_28, li_29, li_30, li_31, li_32, li_34, li_35, li_40, li_41, li_45, li_48, li_49, li_50, li_57, li_58, li_59, li_60, li_61, li_64, li_65, li_97, li_99, li_100, li_115, li_116, li_121, li_122, li_200, li_255, li_256, li_300, li_999, li_1000, li_12345, li_65535, li_1103515245, if_true, if_false, nI_add, pk_mul, pk_sub, s_div, s_rem, s_cl, p_le_t, p_le_f, p_lt_t, p_lt_f, p_eq_t, p_eq_f, bd1_s, bd2_s, bd3_s, nm_s, gd_t, gd_in, gd_nz, gd_bz0, gd_bz1, gd_cp, l3, bI_t, i1, Bool.true_or]))
    | false =>
      by_cases h : ld (5 * k) = t
      · by_cases c : ld (5 * k + 3) ≤ d ∧ d ≤ ld (5 * k + 4)
        · rw [decide_eq_true h, decide_eq_true c.1, decide_eq_true c.2]
          (repeat (simp (disch := omega) only [li_0, li_1, li_2, li_3, li_4, li_5, li_6, li_7, li_8, li_9, li_10, li_11, li_12, li_13, li_14, li_15, li_16, li_17, li_18, li_19, li_20, li_21, li_22, li_23, li_24, li_25, li_26, li_27, li_28, li_29, li_30, li_31, li_32, li_34, li_35, li_40, li_41, li_45, li_48, li_49, li_50, li_57, li_58, li_59, li_60, li_61, li_64, li_65, li_97, li_99, li_100, li_115, li_116, li_121, li_122, li_200, li_255, li_256, li_300, li_999, li_1000, li_12345, li_65535, li_1103515245, if_true, if_false, nI_add, pk_mul, pk_sub, s_div, s_rem, s_cl, p_le_t, p_le_f, p_lt_t, p_lt_f, p_eq_t, p_eq_f, bd1_s, bd2_s, bd3_s, nm_s, gd_t, gd_in, gd_nz, gd_bz0, gd_bz1, gd_cp, l3, bI_f, e0, e3, e4, wi_in c.1 c.2 (show ld (5 * k + 4) < 1000000 by omega), i1, Bool.true_or, Bool.and_self, Bool.false_or]))
        · have hb : (decide (ld (5 * k + 3) ≤ d) && decide (d ≤ ld (5 * k + 4))) = false := by
            rcases Nat.lt_or_ge d (ld (5 * k + 3)) with q | q
            · rw [decide_eq_false (by omega), Bool.false_and]
            · rw [decide_eq_false (p := d ≤ ld (5 * k + 4)) (by omega), Bool.and_false]
          rw [decide_eq_true h, hb]
          (repeat (simp (disch := omega) only [li_0, li_1, li_2, li_3, li_4, li_5, li_6, li_7, li_8, li_9, li_10, li_11, li_12, li_13, li_14, li_15, li_16, li_17, li_18, li_19, li_20, li_21, li_22, li_23, li_24, li_25, li_26, li_27, li_28, li_29, li_30, li_31, li_32, li_34, li_35, li_40, li_41, li_45, li_48, li_49, li_50, li_57, li_58, li_59, li_60, li_61, li_64, li_65, li_97, li_99, li_100, li_115, li_116, li_121, li_122, li_200, li_255, li_256, li_300, li_999, li_1000, li_12345, li_65535, li_1103515245, if_true, if_false, nI_add, pk_mul, pk_sub, s_div, s_rem, s_cl, p_le_t, p_le_f, p_lt_t, p_lt_f, p_eq_t, p_eq_f, bd1_s, bd2_s, bd3_s, nm_s, gd_t, gd_in, gd_nz, gd_bz0, gd_bz1, gd_cp, l3, bI_f, e0, e3, e4, wi_no (j := d) (a := ld (5 * k + 3)) (c := ld (5 * k + 4)) (by omega) (by omega) (by omega), i0, Bool.and_false, Bool.false_or]))
      · rw [decide_eq_false h]
        (repeat (simp (disch := omega) only [li_0, li_1, li_2, li_3, li_4, li_5, li_6, li_7, li_8, li_9, li_10, li_11, li_12, li_13, li_14, li_15, li_16, li_17, li_18, li_19, li_20, li_21, li_22, li_23, li_24, li_25, li_26, li_27, li_28, li_29, li_30, li_31, li_32, li_34, li_35, li_40, li_41, li_45, li_48, li_49, li_50, li_57, li_58, li_59, li_60, li_61, li_64, li_65, li_97, li_99, li_100, li_115, li_116, li_121, li_122, li_200, li_255, li_256, li_300, li_999, li_1000, li_12345, li_65535, li_1103515245, if_true, if_false, nI_add, pk_mul, pk_sub, s_div, s_rem, s_cl, p_le_t, p_le_f, p_lt_t, p_lt_f, p_eq_t, p_eq_f, bd1_s, bd2_s, bd3_s, nm_s, gd_t, gd_in, gd_nz, gd_bz0, gd_bz1, gd_cp, l3, bI_f, e0, i0, Bool.false_and, Bool.false_or]))
/-- a star of t's is there on d: of those from j on -/
def anyS (n cnt : Nat) (sa sp ld : Nat → Nat) (t d : Nat) : Nat → Nat → Bool
  | 0, _ => false
  | r + 1, j => decide (owS n cnt sa sp ld j d = nI t) || anyS n cnt sa sp ld t d r (j + 1)
theorem x_anyS {n ns nt cnt : Nat} {sa sp sb ld : Nat → Nat} {sq st te : Int32} {starts paces brights : Nat → Int32} {msq mst mte : Int32} {ms : Nat → Int32} {lsize : Int32} {lp s : Nat → Int32} (hS : gS n ns nt sa sp sb sq st te starts paces brights msq mst mte ms) (hL : gL n nt cnt ld lsize lp s) {t d : Nat} (hd : d < 1000000) : ∀ (r j nn : Nat), j + r = ns → r < nn → f_X8_hasAnyStar_b2 (nI n) (nI ns) paces starts (nI cnt) lp (nI t) (nI d) nn (nI j) = some (bI (anyS n cnt sa sp ld t d r j)) := by
  obtain ⟨b1, b2, b3, b4, -, -, -, -, -, -, hst⟩ := id hS
  intro r
  induction r with
  | zero =>
    intro j nn hj hnn
    obtain ⟨m, rfl⟩ : ∃ m, nn = m + 1 := ⟨nn - 1, by omega⟩
    rw [f_X8_hasAnyStar_b2, anyS]
    (repeat (simp (disch := omega) only [li_0, li_1, li_2, li_3, li_4, li_5, li_6, li_7, li_8, li_9, li_10, li_11, li_12, li_13, li_14, li_15, li_16, li_17, li_18, li_19, li_20, li_21, li_22, li_23, li_24, li_25, li_26, li_27, li_28, li_29, li_30, li_31, li_32, li_34, li_35, li_40, li_41, li_45, li_48, li_49, li_50, li_57, li_58, li_59, li_60, li_61, li_64, li_65, li_97, li_99, li_100, li_115, li_116, li_121, li_122, li_200, li_255, li_256, li_300, li_999, li_1000, li_12345, li_65535, li_1103515245, if_true, if_false, nI_add, pk_mul, pk_sub, s_div, s_rem, s_cl, p_le_t, p_le_f, p_lt_t, p_lt_f, p_eq_t, p_eq_f, bd1_s, bd2_s, bd3_s, nm_s, gd_t, gd_in, gd_nz, gd_bz0, gd_bz1, gd_cp, bI_f]))
  | succ r ih =>
    intro j nn hj hnn
    obtain ⟨m, rfl⟩ : ∃ m, nn = m + 1 := ⟨nn - 1, by omega⟩
    have ha := (hst j (by omega)).1
    have e1 := x_squareOf hS (show j < ns by omega) hd
    have e2 := x_ownerOf b2 hL (sqN_lt (p := sp j) (d := d) ha) hd
    have e3 := ih (j + 1) m (by omega) (by omega)
    rw [f_X8_hasAnyStar_b2, anyS]
    unfold owS
    (repeat (simp (disch := omega) only [li_0, li_1, li_2, li_3, li_4, li_5, li_6, li_7, li_8, li_9, li_10, li_11, li_12, li_13, li_14, li_15, li_16, li_17, li_18, li_19, li_20, li_21, li_22, li_23, li_24, li_25, li_26, li_27, li_28, li_29, li_30, li_31, li_32, li_34, li_35, li_40, li_41, li_45, li_48, li_49, li_50, li_57, li_58, li_59, li_60, li_61, li_64, li_65, li_97, li_99, li_100, li_115, li_116, li_121, li_122, li_200, li_255, li_256, li_300, li_999, li_1000, li_12345, li_65535, li_1103515245, if_true, if_false, nI_add, pk_mul, pk_sub, s_div, s_rem, s_cl, p_le_t, p_le_f, p_lt_t, p_lt_f, p_eq_t, p_eq_f, bd1_s, bd2_s, bd3_s, nm_s, gd_t, gd_in, gd_nz, gd_bz0, gd_bz1, gd_cp, e1, e2, e3]))
    by_cases h : own n ld (sqN n (sa j) (sp j) d) d cnt 0 = nI t
    · rw [if_pos h, decide_eq_true h, Bool.true_or, bI_t]
    · rw [if_neg h, decide_eq_false h, Bool.false_or]
theorem m_anyS {n ns nt cnt : Nat} {sa sp sb ld : Nat → Nat} {sq st te : Int32} {starts paces brights : Nat → Int32} {msq mst mte : Int32} {ms : Nat → Int32} {lsize : Int32} {lp s : Nat → Int32} (hS : gS n ns nt sa sp sb sq st te starts paces brights msq mst mte ms) (hL : gL n nt cnt ld lsize lp s) {t d : Nat} (hd : d < 1000000) (k38 : Int32 → Int32 → Option (Int32 × Int32)) (x4 : Int32) : ∀ (r j nn : Nat) (acc : Bool), j + r = ns → r < nn → f_X9_dark_b56 (nI n) (nI ns) s ms k38 (nI t) x4 (nI d) nn (bI acc) (nI j) = k38 (x4 + bI (acc && !anyS n cnt sa sp ld t d r j)) (nI (d + 1)) := by
  obtain ⟨b1, b2, b3, b4, -, -, -, -, -, -, hst⟩ := id hS
  intro r
  induction r with
  | zero =>
    intro j nn acc hj hnn
    obtain ⟨m, rfl⟩ : ∃ m, nn = m + 1 := ⟨nn - 1, by omega⟩
    rw [f_X9_dark_b56, anyS]
    unfold f_X9_dark_b113
    cases acc <;> (repeat (simp (disch := omega) only [li_0, li_1, li_2, li_3, li_4, li_5, li_6, li_7, li_8, li_9, li_10, li_11, li_12, li_13, li_14, li_15, li_16, li_17, li_18, li_19, li_20, li_21, li_22, li_23, li_24, li_25, li_26, li_27, li_28, li_29, li_30, li_31, li_32, li_34, li_35, li_40, li_41, li_45, li_48, li_49, li_50, li_57, li_58, li_59, li_60, li_61, li_64, li_65, li_97, li_99, li_100, li_115, li_116, li_121, li_122, li_200, li_255, li_256, li_300, li_999, li_1000, li_12345, li_65535, li_1103515245, if_true, if_false, nI_add, pk_mul, pk_sub, s_div, s_rem, s_cl, p_le_t, p_le_f, p_lt_t, p_lt_f, p_eq_t, p_eq_f, bd1_s, bd2_s, bd3_s, nm_s, gd_t, gd_in, gd_nz, gd_bz0, gd_bz1, gd_cp, bI_f, bI_t, Bool.not_false, Bool.and_true, Bool.false_and, Bool.and_self]))
  | succ r ih =>
    intro j nn acc hj hnn
    obtain ⟨m, rfl⟩ : ∃ m, nn = m + 1 := ⟨nn - 1, by omega⟩
    have ha := (hst j (by omega)).1
    have e1 := m_squareOf hS (show j < ns by omega) hd
    have e2 := m_whoseIs b2 hL (sqN_lt (p := sp j) (d := d) ha) hd
    have i0 := ih (j + 1) m false (by omega) (by omega)
    have i1 := ih (j + 1) m true (by omega) (by omega)
    rw [bI_f] at i0
    rw [bI_t] at i1
    rw [f_X9_dark_b56, anyS]
    unfold owS f_X9_dark_b92 f_X9_dark_b93
    cases acc with
    | false => (repeat (simp (disch := omega) only [li_0, li_1, li_2, li_3, li_4, li_5, li_6, li_7, li_8, li_9, li_10, li_11, li_12, li_13, li_14, li_15, li_16, li_17, li_18, li_19, li_20, li_21, li_22, li_23, li_24, li_25, li_26, li_27, li_28, li_29, li_30, li_31, li_32, li_34, li_35, li_40, li_41, li_45, li_48, li_49, li_50, li_57, li_58, li_59, li_60, li_61, li_64, li_65, li_97, li_99, li_100, li_115, li_116, li_121, li_122, li_200, li_255, li_256, li_300, li_999, li_1000, li_12345, li_65535, li_1103515245, if_true, if_false, nI_add, pk_mul, pk_sub, s_div, s_rem, s_cl, p_le_t, p_le_f, p_lt_t, p_lt_f, p_eq_t, p_eq_f, bd1_s, bd2_s, bd3_s, nm_s, gd_t, gd_in, gd_nz, gd_bz0, gd_bz1, gd_cp, bI_f, i0, Bool.false_and]))
    | true =>
      (repeat (simp (disch := omega) only [li_0, li_1, li_2, li_3, li_4, li_5, li_6, li_7, li_8, li_9, li_10, li_11, li_12, li_13, li_14, li_15, li_16, li_17, li_18, li_19, li_20, li_21, li_22, li_23, li_24, li_25, li_26, li_27, li_28, li_29, li_30, li_31, li_32, li_34, li_35, li_40, li_41, li_45, li_48, li_49, li_50, li_57, li_58, li_59, li_60, li_61, li_64, li_65, li_97, li_99, li_100, li_115, li_116, li_121, li_122, li_200, li_255, li_256, li_300, li_999, li_1000, li_12345, li_65535, li_1103515245, if_true, if_false, nI_add, pk_mul, pk_sub, s_div, s_rem, s_cl, p_le_t, p_le_f, p_lt_t, p_lt_f, p_eq_t, p_eq_f, bd1_s, bd2_s, bd3_s, nm_s, gd_t, gd_in, gd_nz, gd_bz0, gd_bz1, gd_cp, bI_t, e1, e2, i0, i1]))
      by_cases h : own n ld (sqN n (sa j) (sp j) d) d cnt 0 = nI t
      · rw [if_pos h, decide_eq_true h, Bool.true_or, Bool.not_true, Bool.and_false, Bool.false_and]
      · rw [if_neg h, decide_eq_false h, Bool.false_or]
def darkC (n ns cnt : Nat) (sa sp ld : Nat → Nat) (t : Nat) : Nat → Nat → Nat
  | 0, _ => 0
  | r + 1, d => (if (hasL ld t d cnt 0 && !anyS n cnt sa sp ld t d ns 0) = true then 1 else 0) + darkC n ns cnt sa sp ld t r (d + 1)
theorem bI_if (b : Bool) : bI b = nI (if b = true then 1 else 0) := by cases b <;> rfl
theorem x_dark {n ns nt cnt : Nat} {sa sp sb ld : Nat → Nat} {sq st te : Int32} {starts paces brights : Nat → Int32} {msq mst mte : Int32} {ms : Nat → Int32} {lsize : Int32} {lp s : Nat → Int32} (hS : gS n ns nt sa sp sb sq st te starts paces brights msq mst mte ms) (hL : gL n nt cnt ld lsize lp s) {t b : Nat} (ht : t < 4) (hb : b ≤ 99) : ∀ (r d nn acc : Nat), d + r = b + 1 → r < nn → f_X8_dark_b27 (nI n) (nI ns) (nI cnt) lp paces starts (nI t) (nI b) nn (nI acc) (nI d) = some (nI (acc + darkC n ns cnt sa sp ld t r d)) := by
  obtain ⟨b1, b2, b3, b4, -, -, -, -, -, -, hst⟩ := id hS
  have l1 := hL.1
  intro r
  induction r with
  | zero =>
    intro d nn acc hd hnn
    obtain ⟨m, rfl⟩ : ∃ m, nn = m + 1 := ⟨nn - 1, by omega⟩
    rw [f_X8_dark_b27, darkC]
    (repeat (simp (disch := omega) only [li_0, li_1, li_2, li_3, li_4, li_5, li_6, li_7, li_8, li_9, li_10, li_11, li_12, li_13, li_14, li_15, li_16, li_17, li_18, li_19, li_20, li_21, li_22, li_23, li_24, li_25, li_26, li_27, li_28, li_29, li_30, li_31, li_32, li_34, li_35, li_40, li_41, li_45, li_48, li_49, li_50, li_57, li_58, li_59, li_60, li_61, li_64, li_65, li_97, li_99, li_100, li_115, li_116, li_121, li_122, li_200, li_255, li_256, li_300, li_999, li_1000, li_12345, li_65535, li_1103515245, if_true, if_false, nI_add, pk_mul, pk_sub, s_div, s_rem, s_cl, p_le_t, p_le_f, p_lt_t, p_lt_f, p_eq_t, p_eq_f, bd1_s, bd2_s, bd3_s, nm_s, gd_t, gd_in, gd_nz, gd_bz0, gd_bz1, gd_cp, Nat.add_zero]))
  | succ r ih =>
    intro d nn acc hd hnn
    obtain ⟨m, rfl⟩ : ∃ m, nn = m + 1 := ⟨nn - 1, by omega⟩
    have e1 : f_X6_anyHolds (nI cnt) lp (nI t) (nI d) = some (bI (hasL ld t d cnt 0)) := x_hasL hL b4 ht (by omega) cnt 0 zF (by omega) (by unfold zF; omega)
    have e2 : f_X8_hasAnyStar (nI n) (nI ns) paces starts (nI cnt) lp (nI t) (nI d) = some (bI (anyS n cnt sa sp ld t d ns 0)) := x_anyS hS hL (by omega) ns 0 zF (by omega) (by unfold zF; omega)
    have i0 := ih (d + 1) m acc (by omega) (by omega)
    have i1 := ih (d + 1) m (acc + 1) (by omega) (by omega)
    rw [f_X8_dark_b27, darkC]
    unfold f_X8_dark_b62
    cases h1 : hasL ld t d cnt 0 <;> cases h2 : anyS n cnt sa sp ld t d ns 0 <;> (repeat (simp (disch := omega) only [li_0, li_1, li_2, li_3, li_4, li_5, li_6, li_7, li_8, li_9, li_10, li_11, li_12, li_13, li_14, li_15, li_16, li_17, li_18, li_19, li_20, li_21, li_22, li_23, li_24, li_25, li_26, li_27, li_28, li_29, li_30, li_31, li_32, li_34, li_35, li_40, li_41, li_45, li_48, li_49, li_50, li_57, li_58, li_59, li_60, li_61, li_64, li_65, li_97, li_99, li_100, li_115, li_116, li_121, li_122, li_200, li_255, li_256, li_300, li_999, li_1000, li_12345, li_65535, li_1103515245, if_true, if_false, nI_add, pk_mul, pk_sub, s_div, s_rem, s_cl, p_le_t, p_le_f, p_lt_t, p_lt_f, p_eq_t, p_eq_f, bd1_s, bd2_s, bd3_s, nm_s, gd_t, gd_in, gd_nz, gd_bz0, gd_bz1, gd_cp, e1, h1, e2, h2, bI_t, bI_f, i0, i1, Bool.false_and, Bool.and_false, Bool.not_true, Bool.not_false, Bool.and_true, if_true, Bool.false_eq_true, if_false, Nat.zero_add, Nat.add_assoc]))
theorem m_dark {n ns nt cnt : Nat} {sa sp sb ld : Nat → Nat} {sq st te : Int32} {starts paces brights : Nat → Int32} {msq mst mte : Int32} {ms : Nat → Int32} {lsize : Int32} {lp s : Nat → Int32} (hS : gS n ns nt sa sp sb sq st te starts paces brights msq mst mte ms) (hL : gL n nt cnt ld lsize lp s) {t b : Nat} (ht : t < 4) (hb : b ≤ 99) (th : Int32) : ∀ (r d nn acc : Nat), d + r = b + 1 → r < nn → f_X9_dark_b38 (nI n) (nI ns) s ms (nI t) (nI b) th nn (nI acc) (nI d) = some (nI (acc + darkC n ns cnt sa sp ld t r d), th) := by
  obtain ⟨b1, b2, b3, b4, -, -, -, -, -, -, hst⟩ := id hS
  have l1 := hL.1
  intro r
  induction r with
  | zero =>
    intro d nn acc hd hnn
    obtain ⟨m, rfl⟩ : ∃ m, nn = m + 1 := ⟨nn - 1, by omega⟩
    rw [f_X9_dark_b38, darkC]
    (repeat (simp (disch := omega) only [li_0, li_1, li_2, li_3, li_4, li_5, li_6, li_7, li_8, li_9, li_10, li_11, li_12, li_13, li_14, li_15, li_16, li_17, li_18, li_19, li_20, li_21, li_22, li_23, li_24, li_25, li_26, li_27, li_28, li_29, li_30, li_31, li_32, li_34, li_35, li_40, li_41, li_45, li_48, li_49, li_50, li_57, li_58, li_59, li_60, li_61, li_64, li_65, li_97, li_99, li_100, li_115, li_116, li_121, li_122, li_200, li_255, li_256, li_300, li_999, li_1000, li_12345, li_65535, li_1103515245, if_true, if_false, nI_add, pk_mul, pk_sub, s_div, s_rem, s_cl, p_le_t, p_le_f, p_lt_t, p_lt_f, p_eq_t, p_eq_f, bd1_s, bd2_s, bd3_s, nm_s, gd_t, gd_in, gd_nz, gd_bz0, gd_bz1, gd_cp, Nat.add_zero]))
  | succ r ih =>
    intro d nn acc hd hnn
    obtain ⟨m, rfl⟩ : ∃ m, nn = m + 1 := ⟨nn - 1, by omega⟩
    have e1 : f_X9_hasLease s (nI t) (nI d) = some (bI (false || hasL ld t d cnt 0)) := m_hasL hL b4 ht (by omega) cnt 0 zF false (by omega) (by unfold zF; omega)
    have e2 := m_anyS hS hL (t := t) (d := d) (by omega) (f_X9_dark_b38 (nI n) (nI ns) s ms (nI t) (nI b) th m) (nI acc) ns 0 zF (hasL ld t d cnt 0) (by omega) (by unfold zF; omega)
    rw [Bool.false_or] at e1
    rw [f_X9_dark_b38, darkC]
    (repeat (simp (disch := omega) only [li_0, li_1, li_2, li_3, li_4, li_5, li_6, li_7, li_8, li_9, li_10, li_11, li_12, li_13, li_14, li_15, li_16, li_17, li_18, li_19, li_20, li_21, li_22, li_23, li_24, li_25, li_26, li_27, li_28, li_29, li_30, li_31, li_32, li_34, li_35, li_40, li_41, li_45, li_48, li_49, li_50, li_57, li_58, li_59, li_60, li_61, li_64, li_65, li_97, li_99, li_100, li_115, li_116, li_121, li_122, li_200, li_255, li_256, li_300, li_999, li_1000, li_12345, li_65535, li_1103515245, if_true, if_false, nI_add, pk_mul, pk_sub, s_div, s_rem, s_cl, p_le_t, p_le_f, p_lt_t, p_lt_f, p_eq_t, p_eq_f, bd1_s, bd2_s, bd3_s, nm_s, gd_t, gd_in, gd_nz, gd_bz0, gd_bz1, gd_cp, e1]))
    rw [e2, bI_if, nI_add, ih (d + 1) m _ (by omega) (by omega), Nat.add_assoc]
theorem pm_dark (v : Nat → Int32) (r : Nat → Nat → Int32) (t : Int64) (vm : Nat → Int32) (rm : Nat → Nat → Int32) (tm : Int64) (hI : Inv v r t vm rm tm) (g1 : Int32) (g2 : Int32) (g3 : Int32) : ∃ (R0 : Int32) (z0 : Int32), f_X8_dark (v 5) (v 6) (v 7) (v 18) (r 13) (r 3) (r 2) g1 g2 g3 = some R0 ∧ f_X9_dark (vm 0) (vm 7) (vm 8) (vm 9) (rm 4) (rm 1) g1 g2 g3 = some (R0, z0) ∧ Inv v r t (upd vm 0 z0) rm tm := by
  obtain ⟨n, ns, nt, sa, sp, sb, hS, hT, hN, hI0, hI1, hO, hEe, htr, m8, m13, m17, m19, m33⟩ := id hI
  obtain ⟨b1, b2, b3, b4, s1, s2, s3, s4, s5, s6, hst⟩ := id hS
  obtain ⟨⟨d0, hd0, n1, n2⟩, n3, n4, cnt, un, ld, ub, uk, ud, cn, hL, hU⟩ := id hN
  obtain ⟨l1, l2, l3, l4, l5⟩ := id hL
  unfold f_X8_dark f_X9_dark f_X8_areNights
  rw [l2, s1, s2, s3, s4, s5, s6, in_eq]
  simp only [li_0, li_1, li_2, li_3, li_4, li_5, li_6, li_7, li_8, li_9, li_10, li_11, li_12, li_13, li_14, li_15, li_16, li_17, li_18, li_19, li_20, li_21, li_22, li_23, li_24, li_25, li_26, li_27, li_28, li_29, li_30, li_31, li_32, li_34, li_35, li_40, li_41, li_45, li_48, li_49, li_50, li_57, li_58, li_59, li_60, li_61, li_64, li_65, li_97, li_99, li_100, li_115, li_116, li_121, li_122, li_200, li_255, li_256, li_300, li_999, li_1000, li_12345, li_65535, li_1103515245]
  rcases num_cases g1 nt (by omega) with ho | ⟨t', ht, rfl⟩
  · exact ⟨-1, nI 0, by rw [ten_out ho]; (repeat (simp (disch := omega) only [li_0, li_1, li_2, li_3, li_4, li_5, li_6, li_7, li_8, li_9, li_10, li_11, li_12, li_13, li_14, li_15, li_16, li_17, li_18, li_19, li_20, li_21, li_22, li_23, li_24, li_25, li_26, li_27, li_28, li_29, li_30, li_31, li_32, li_34, li_35, li_40, li_41, li_45, li_48, li_49, li_50, li_57, li_58, li_59, li_60, li_61, li_64, li_65, li_97, li_99, li_100, li_115, li_116, li_121, li_122, li_200, li_255, li_256, li_300, li_999, li_1000, li_12345, li_65535, li_1103515245, if_true, if_false, nI_add, pk_mul, pk_sub, s_div, s_rem, s_cl, p_le_t, p_le_f, p_lt_t, p_lt_f, p_eq_t, p_eq_f, bd1_s, bd2_s, bd3_s, nm_s, gd_t, gd_in, gd_nz, gd_bz0, gd_bz1, gd_cp])), by rw [mTen_out (by omega) ho]; (repeat (simp (disch := omega) only [li_0, li_1, li_2, li_3, li_4, li_5, li_6, li_7, li_8, li_9, li_10, li_11, li_12, li_13, li_14, li_15, li_16, li_17, li_18, li_19, li_20, li_21, li_22, li_23, li_24, li_25, li_26, li_27, li_28, li_29, li_30, li_31, li_32, li_34, li_35, li_40, li_41, li_45, li_48, li_49, li_50, li_57, li_58, li_59, li_60, li_61, li_64, li_65, li_97, li_99, li_100, li_115, li_116, li_121, li_122, li_200, li_255, li_256, li_300, li_999, li_1000, li_12345, li_65535, li_1103515245, if_true, if_false, nI_add, pk_mul, pk_sub, s_div, s_rem, s_cl, p_le_t, p_le_f, p_lt_t, p_lt_f, p_eq_t, p_eq_f, bd1_s, bd2_s, bd3_s, nm_s, gd_t, gd_in, gd_nz, gd_bz0, gd_bz1, gd_cp])), inv_thrown hI _⟩
  rw [ten_in ht (by omega), mTen_in ht (by omega)]
  rcases num_cases g2 100 (by decide) with ho | ⟨a, ha, rfl⟩
  · exact ⟨-1, nI 0, by rw [wi_out (by decide) (by decide) ho]; (repeat (simp (disch := omega) only [li_0, li_1, li_2, li_3, li_4, li_5, li_6, li_7, li_8, li_9, li_10, li_11, li_12, li_13, li_14, li_15, li_16, li_17, li_18, li_19, li_20, li_21, li_22, li_23, li_24, li_25, li_26, li_27, li_28, li_29, li_30, li_31, li_32, li_34, li_35, li_40, li_41, li_45, li_48, li_49, li_50, li_57, li_58, li_59, li_60, li_61, li_64, li_65, li_97, li_99, li_100, li_115, li_116, li_121, li_122, li_200, li_255, li_256, li_300, li_999, li_1000, li_12345, li_65535, li_1103515245, if_true, if_false, nI_add, pk_mul, pk_sub, s_div, s_rem, s_cl, p_le_t, p_le_f, p_lt_t, p_lt_f, p_eq_t, p_eq_f, bd1_s, bd2_s, bd3_s, nm_s, gd_t, gd_in, gd_nz, gd_bz0, gd_bz1, gd_cp])), by rw [mNight_out ho]; (repeat (simp (disch := omega) only [li_0, li_1, li_2, li_3, li_4, li_5, li_6, li_7, li_8, li_9, li_10, li_11, li_12, li_13, li_14, li_15, li_16, li_17, li_18, li_19, li_20, li_21, li_22, li_23, li_24, li_25, li_26, li_27, li_28, li_29, li_30, li_31, li_32, li_34, li_35, li_40, li_41, li_45, li_48, li_49, li_50, li_57, li_58, li_59, li_60, li_61, li_64, li_65, li_97, li_99, li_100, li_115, li_116, li_121, li_122, li_200, li_255, li_256, li_300, li_999, li_1000, li_12345, li_65535, li_1103515245, if_true, if_false, nI_add, pk_mul, pk_sub, s_div, s_rem, s_cl, p_le_t, p_le_f, p_lt_t, p_lt_f, p_eq_t, p_eq_f, bd1_s, bd2_s, bd3_s, nm_s, gd_t, gd_in, gd_nz, gd_bz0, gd_bz1, gd_cp])), inv_thrown hI _⟩
  rw [wi_in (a := 0) (c := 99) (show 0 ≤ a by omega) (by omega) (by decide), mNight_in ha]
  rcases num_cases g3 100 (by decide) with ho | ⟨b, hb, rfl⟩
  · exact ⟨-1, nI 0, by rw [wi_out (by omega) (by decide) ho]; (repeat (simp (disch := omega) only [li_0, li_1, li_2, li_3, li_4, li_5, li_6, li_7, li_8, li_9, li_10, li_11, li_12, li_13, li_14, li_15, li_16, li_17, li_18, li_19, li_20, li_21, li_22, li_23, li_24, li_25, li_26, li_27, li_28, li_29, li_30, li_31, li_32, li_34, li_35, li_40, li_41, li_45, li_48, li_49, li_50, li_57, li_58, li_59, li_60, li_61, li_64, li_65, li_97, li_99, li_100, li_115, li_116, li_121, li_122, li_200, li_255, li_256, li_300, li_999, li_1000, li_12345, li_65535, li_1103515245, if_true, if_false, nI_add, pk_mul, pk_sub, s_div, s_rem, s_cl, p_le_t, p_le_f, p_lt_t, p_lt_f, p_eq_t, p_eq_f, bd1_s, bd2_s, bd3_s, nm_s, gd_t, gd_in, gd_nz, gd_bz0, gd_bz1, gd_cp])), by rw [wi_out (by omega) (by decide) ho]; (repeat (simp (disch := omega) only [li_0, li_1, li_2, li_3, li_4, li_5, li_6, li_7, li_8, li_9, li_10, li_11, li_12, li_13, li_14, li_15, li_16, li_17, li_18, li_19, li_20, li_21, li_22, li_23, li_24, li_25, li_26, li_27, li_28, li_29, li_30, li_31, li_32, li_34, li_35, li_40, li_41, li_45, li_48, li_49, li_50, li_57, li_58, li_59, li_60, li_61, li_64, li_65, li_97, li_99, li_100, li_115, li_116, li_121, li_122, li_200, li_255, li_256, li_300, li_999, li_1000, li_12345, li_65535, li_1103515245, if_true, if_false, nI_add, pk_mul, pk_sub, s_div, s_rem, s_cl, p_le_t, p_le_f, p_lt_t, p_lt_f, p_eq_t, p_eq_f, bd1_s, bd2_s, bd3_s, nm_s, gd_t, gd_in, gd_nz, gd_bz0, gd_bz1, gd_cp])), inv_thrown hI _⟩
  by_cases hab : a ≤ b
  · have e1 := x_dark hS hL (t := t') (b := b) (by omega) (by omega) (b + 1 - a) a zF 0 (by omega) (by unfold zF; omega)
    have e2 := m_dark hS hL (t := t') (b := b) (by omega) (by omega) (nI 0) (b + 1 - a) a zF 0 (by omega) (by unfold zF; omega)
    exact ⟨nI (0 + darkC n ns cnt sa sp ld t' (b + 1 - a) a), nI 0, by rw [wi_in hab (by omega) (by decide)]; (repeat (simp (disch := omega) only [li_0, li_1, li_2, li_3, li_4, li_5, li_6, li_7, li_8, li_9, li_10, li_11, li_12, li_13, li_14, li_15, li_16, li_17, li_18, li_19, li_20, li_21, li_22, li_23, li_24, li_25, li_26, li_27, li_28, li_29, li_30, li_31, li_32, li_34, li_35, li_40, li_41, li_45, li_48, li_49, li_50, li_57, li_58, li_59, li_60, li_61, li_64, li_65, li_97, li_99, li_100, li_115, li_116, li_121, li_122, li_200, li_255, li_256, li_300, li_999, li_1000, li_12345, li_65535, li_1103515245, if_true, if_false, nI_add, pk_mul, pk_sub, s_div, s_rem, s_cl, p_le_t, p_le_f, p_lt_t, p_lt_f, p_eq_t, p_eq_f, bd1_s, bd2_s, bd3_s, nm_s, gd_t, gd_in, gd_nz, gd_bz0, gd_bz1, gd_cp, e1])), by rw [wi_in hab (by omega) (by decide)]; (repeat (simp (disch := omega) only [li_0, li_1, li_2, li_3, li_4, li_5, li_6, li_7, li_8, li_9, li_10, li_11, li_12, li_13, li_14, li_15, li_16, li_17, li_18, li_19, li_20, li_21, li_22, li_23, li_24, li_25, li_26, li_27, li_28, li_29, li_30, li_31, li_32, li_34, li_35, li_40, li_41, li_45, li_48, li_49, li_50, li_57, li_58, li_59, li_60, li_61, li_64, li_65, li_97, li_99, li_100, li_115, li_116, li_121, li_122, li_200, li_255, li_256, li_300, li_999, li_1000, li_12345, li_65535, li_1103515245, if_true, if_false, nI_add, pk_mul, pk_sub, s_div, s_rem, s_cl, p_le_t, p_le_f, p_lt_t, p_lt_f, p_eq_t, p_eq_f, bd1_s, bd2_s, bd3_s, nm_s, gd_t, gd_in, gd_nz, gd_bz0, gd_bz1, gd_cp, e2])), inv_thrown hI _⟩
  · exact ⟨-1, nI 0, by rw [wi_no (Or.inl (by omega)) (by omega) (by omega)]; (repeat (simp (disch := omega) only [li_0, li_1, li_2, li_3, li_4, li_5, li_6, li_7, li_8, li_9, li_10, li_11, li_12, li_13, li_14, li_15, li_16, li_17, li_18, li_19, li_20, li_21, li_22, li_23, li_24, li_25, li_26, li_27, li_28, li_29, li_30, li_31, li_32, li_34, li_35, li_40, li_41, li_45, li_48, li_49, li_50, li_57, li_58, li_59, li_60, li_61, li_64, li_65, li_97, li_99, li_100, li_115, li_116, li_121, li_122, li_200, li_255, li_256, li_300, li_999, li_1000, li_12345, li_65535, li_1103515245, if_true, if_false, nI_add, pk_mul, pk_sub, s_div, s_rem, s_cl, p_le_t, p_le_f, p_lt_t, p_lt_f, p_eq_t, p_eq_f, bd1_s, bd2_s, bd3_s, nm_s, gd_t, gd_in, gd_nz, gd_bz0, gd_bz1, gd_cp])), by rw [wi_no (Or.inl (by omega)) (by omega) (by omega)]; (repeat (simp (disch := omega) only [li_0, li_1, li_2, li_3, li_4, li_5, li_6, li_7, li_8, li_9, li_10, li_11, li_12, li_13, li_14, li_15, li_16, li_17, li_18, li_19, li_20, li_21, li_22, li_23, li_24, li_25, li_26, li_27, li_28, li_29, li_30, li_31, li_32, li_34, li_35, li_40, li_41, li_45, li_48, li_49, li_50, li_57, li_58, li_59, li_60, li_61, li_64, li_65, li_97, li_99, li_100, li_115, li_116, li_121, li_122, li_200, li_255, li_256, li_300, li_999, li_1000, li_12345, li_65535, li_1103515245, if_true, if_false, nI_add, pk_mul, pk_sub, s_div, s_rem, s_cl, p_le_t, p_le_f, p_lt_t, p_lt_f, p_eq_t, p_eq_f, bd1_s, bd2_s, bd3_s, nm_s, gd_t, gd_in, gd_nz, gd_bz0, gd_bz1, gd_cp])), inv_thrown hI _⟩
