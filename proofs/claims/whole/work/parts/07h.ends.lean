/-! ends, undo -/
theorem m_goes {c : Nat} (hc : c ≤ 9) : ∀ (r e nn : Nat) (s : Nat → Int32), s 6 = nI c → 5 * c ≤ e + r → e ≤ 50 → r < nn → ∃ s' : Nat → Int32, f_X9_goesOut_b15 nn (nI e) s = some s' ∧ ∀ j, s' j = if 7 + e ≤ j ∧ j < 7 + 5 * c then s (j + 5) else s j := by
  intro r
  induction r with
  | zero =>
    intro e nn s h6 hr he hnn
    obtain ⟨m, rfl⟩ : ∃ m, nn = m + 1 := ⟨nn - 1, by omega⟩
    rw [f_X9_goesOut_b15]
    refine ⟨s, by (repeat (simp (disch := omega) only [li_0, li_1, li_2, li_3, li_4, li_5, li_6, li_7, li_8, li_9, li_10, li_11, li_12, li_13, li_14, li_15, li_16, li_17, li_18, li_19, li_20, li_21, li_22, li_23, li_24, li_25, li_26, li_27, li_28, li_29, li_30, li_31, li_32, li_34, li_35, li_40, li_41, li_45, li_48, li_49, li_50, li_57, li_58, li_59, li_60, li_61, li_64, li_65, li_97, li_99, li_100, li_115, li_116, li_121, li_122, li_200, li_255, li_256, li_300, li_999, li_1000, li_12345, li_65535, li_1103515245, if_true, if_false, nI_add, pk_mul, pk_sub, s_div, s_rem, s_cl, p_le_t, p_le_f, p_lt_t, p_lt_f, p_eq_t, p_eq_f, bd1_s, bd2_s, bd3_s, nm_s, gd_t, gd_in, gd_nz, gd_bz0, gd_bz1, gd_cp, h6])), fun j => ?_⟩
    rw [if_neg (by omega)]
  | succ r ih =>
    intro e nn s h6 hr he hnn
    obtain ⟨m, rfl⟩ : ∃ m, nn = m + 1 := ⟨nn - 1, by omega⟩
    rw [f_X9_goesOut_b15]
    by_cases h5 : 5 * c ≤ e
    · refine ⟨s, by (repeat (simp (disch := omega) only [li_0, li_1, li_2, li_3, li_4, li_5, li_6, li_7, li_8, li_9, li_10, li_11, li_12, li_13, li_14, li_15, li_16, li_17, li_18, li_19, li_20, li_21, li_22, li_23, li_24, li_25, li_26, li_27, li_28, li_29, li_30, li_31, li_32, li_34, li_35, li_40, li_41, li_45, li_48, li_49, li_50, li_57, li_58, li_59, li_60, li_61, li_64, li_65, li_97, li_99, li_100, li_115, li_116, li_121, li_122, li_200, li_255, li_256, li_300, li_999, li_1000, li_12345, li_65535, li_1103515245, if_true, if_false, nI_add, pk_mul, pk_sub, s_div, s_rem, s_cl, p_le_t, p_le_f, p_lt_t, p_lt_f, p_eq_t, p_eq_f, bd1_s, bd2_s, bd3_s, nm_s, gd_t, gd_in, gd_nz, gd_bz0, gd_bz1, gd_cp, h6])), fun j => ?_⟩
      rw [if_neg (by omega)]
    · obtain ⟨s', h1, h2⟩ := ih (e + 1) m (upd s (7 + e) (s (7 + e + 5))) (by rw [pk_un (by omega)]; exact h6) (by omega) (by omega) (by omega)
      refine ⟨s', by (repeat (simp (disch := omega) only [li_0, li_1, li_2, li_3, li_4, li_5, li_6, li_7, li_8, li_9, li_10, li_11, li_12, li_13, li_14, li_15, li_16, li_17, li_18, li_19, li_20, li_21, li_22, li_23, li_24, li_25, li_26, li_27, li_28, li_29, li_30, li_31, li_32, li_34, li_35, li_40, li_41, li_45, li_48, li_49, li_50, li_57, li_58, li_59, li_60, li_61, li_64, li_65, li_97, li_99, li_100, li_115, li_116, li_121, li_122, li_200, li_255, li_256, li_300, li_999, li_1000, li_12345, li_65535, li_1103515245, if_true, if_false, nI_add, pk_mul, pk_sub, s_div, s_rem, s_cl, p_le_t, p_le_f, p_lt_t, p_lt_f, p_eq_t, p_eq_f, bd1_s, bd2_s, bd3_s, nm_s, gd_t, gd_in, gd_nz, gd_bz0, gd_bz1, gd_cp, h6, h1])), fun j => ?_⟩
      rw [h2 j]
      by_cases hj : 7 + (e + 1) ≤ j ∧ j < 7 + 5 * c
      · rw [if_pos hj, if_pos (by omega), pk_un (by omega)]
      · rw [if_neg hj]
        by_cases hj2 : j = 7 + e
        · subst hj2
          rw [if_pos (by omega), pk_us]
        · rw [if_neg (by omega), pk_un hj2]
theorem m_goesOut {c k : Nat} (hc : c ≤ 9) (hk : k ≤ 9) (s : Nat → Int32) (h6 : s 6 = nI (c + 1)) : ∃ s' : Nat → Int32, f_X9_goesOut s (nI k) = some s' ∧ s' 6 = nI c ∧ ∀ j, j ≠ 6 → s' j = if 7 + 5 * k ≤ j ∧ j < 7 + 5 * c then s (j + 5) else s j := by
  obtain ⟨s', h1, h2⟩ := m_goes hc 50 (5 * k) zF (upd s 6 (nI c)) pk_us (by omega) (by omega) (by unfold zF; omega)
  refine ⟨s', ?_, ?_, fun j hj => ?_⟩
  · unfold f_X9_goesOut
    (repeat (simp (disch := omega) only [li_0, li_1, li_2, li_3, li_4, li_5, li_6, li_7, li_8, li_9, li_10, li_11, li_12, li_13, li_14, li_15, li_16, li_17, li_18, li_19, li_20, li_21, li_22, li_23, li_24, li_25, li_26, li_27, li_28, li_29, li_30, li_31, li_32, li_34, li_35, li_40, li_41, li_45, li_48, li_49, li_50, li_57, li_58, li_59, li_60, li_61, li_64, li_65, li_97, li_99, li_100, li_115, li_116, li_121, li_122, li_200, li_255, li_256, li_300, li_999, li_1000, li_12345, li_65535, li_1103515245, if_true, if_false, nI_add, pk_mul, pk_sub, s_div, s_rem, s_cl, p_le_t, p_le_f, p_lt_t, p_lt_f, p_eq_t, p_eq_f, bd1_s, bd2_s, bd3_s, nm_s, gd_t, gd_in, gd_nz, gd_bz0, gd_bz1, gd_cp, h6]))
    rw [show c + 1 - 1 = c by omega]
    exact h1
  · rw [h2 6, if_neg (by omega), pk_us]
  · rw [h2 j]
    by_cases hj2 : 7 + 5 * k ≤ j ∧ j < 7 + 5 * c
    · rw [if_pos hj2, if_pos hj2, pk_un (by omega)]
    · rw [if_neg hj2, if_neg hj2, pk_un hj]
/-- one row out -/
def outL {α : Type} (ld : Nat → α) (k : Nat) : Nat → α := fun j => if j < 5 * k then ld j else ld (j + 5)
theorem outL_ok {n nt : Nat} {ld : Nat → Nat} {cnt k : Nat} (h : ∀ i, i < cnt → okL n nt ld i) (hk : k < cnt) : ∀ i, i < cnt - 1 → okL n nt (outL ld k) i := by
  intro i hi
  by_cases h1 : i < k
  · have := h i (by omega)
    unfold okL outL at *
    rw [if_pos (by omega), if_pos (by omega), if_pos (by omega), if_pos (by omega), if_pos (by omega)]
    exact this
  · have := h (i + 1) (by omega)
    unfold okL outL at *
    rw [if_neg (by omega), if_neg (by omega), if_neg (by omega), if_neg (by omega), if_neg (by omega)]
    rw [show 5 * (i + 1) = 5 * i + 5 by omega] at this
    rw [show 5 * i + 1 + 5 = 5 * i + 5 + 1 by omega, show 5 * i + 2 + 5 = 5 * i + 5 + 2 by omega, show 5 * i + 3 + 5 = 5 * i + 5 + 3 by omega, show 5 * i + 4 + 5 = 5 * i + 5 + 4 by omega]
    exact this
theorem x_removeAt {c k : Nat} (hc : c ≤ 10) (hk : k < c) (lp : Nat → Int32) : f_X6_removeAt (nI c) lp (nI k) = some (nI (c - 1), va_cpy lp lp (k * 5 + 5) (k * 5) ((c - k - 1) * 5)) := by
  unfold f_X6_removeAt
  rw [x_has hk (by omega)]
  (repeat (simp (disch := omega) only [li_0, li_1, li_2, li_3, li_4, li_5, li_6, li_7, li_8, li_9, li_10, li_11, li_12, li_13, li_14, li_15, li_16, li_17, li_18, li_19, li_20, li_21, li_22, li_23, li_24, li_25, li_26, li_27, li_28, li_29, li_30, li_31, li_32, li_34, li_35, li_40, li_41, li_45, li_48, li_49, li_50, li_57, li_58, li_59, li_60, li_61, li_64, li_65, li_97, li_99, li_100, li_115, li_116, li_121, li_122, li_200, li_255, li_256, li_300, li_999, li_1000, li_12345, li_65535, li_1103515245, if_true, if_false, nI_add, pk_mul, pk_sub, s_div, s_rem, s_cl, p_le_t, p_le_f, p_lt_t, p_lt_f, p_eq_t, p_eq_f, bd1_s, bd2_s, bd3_s, nm_s, gd_t, gd_in, gd_nz, gd_bz0, gd_bz1, gd_cp]))
theorem pm_ends (v : Nat → Int32) (r : Nat → Nat → Int32) (t : Int64) (vm : Nat → Int32) (rm : Nat → Nat → Int32) (tm : Int64) (hI : Inv v r t vm rm tm) (g1 : Int32) : ∃ (R0 : Int32) (w0 : Int32) (w1 : Int32) (w2 : Nat → Int32) (w3 : Nat → Int32) (w4 : Nat → Int32) (z0 : Int32) (z1 : Nat → Int32), f_X8_ends (v 18) (v 19) (v 20) (r 14) (r 15) (r 13) g1 = some (R0, w0, w1, w2, w3, w4) ∧ f_X9_ends (vm 0) (rm 4) g1 = some (R0, z0, z1) ∧ Inv (upd (upd v 18 w0) 20 w1) (updA (updA (updA r 14 w2) 15 w3) 13 w4) t (upd vm 0 z0) (updA rm 4 z1) tm := by
  obtain ⟨n, ns, nt, sa, sp, sb, hS, hT, hN, hI0, hI1, hO, hEe, htr, m8, m13, m17, m19, m33⟩ := id hI
  obtain ⟨b1, b2, b3, b4, s1, s2, s3, s4, s5, s6, hst⟩ := id hS
  obtain ⟨⟨d0, hd0, n1, n2⟩, n3, n4, cnt, un, ld, ub, uk, ud, cn, hL, hU⟩ := id hN
  obtain ⟨l1, l2, l3, l4, l5⟩ := id hL
  obtain ⟨u1, u2, u3, u4, u5⟩ := id hU
  unfold f_X8_ends f_X9_ends f_X2_noteEnded
  rw [l2, u2, m19, in_eq]
  simp only [li_0, li_1, li_2, li_3, li_4, li_5, li_6, li_7, li_8, li_9, li_10, li_11, li_12, li_13, li_14, li_15, li_16, li_17, li_18, li_19, li_20, li_21, li_22, li_23, li_24, li_25, li_26, li_27, li_28, li_29, li_30, li_31, li_32, li_34, li_35, li_40, li_41, li_45, li_48, li_49, li_50, li_57, li_58, li_59, li_60, li_61, li_64, li_65, li_97, li_99, li_100, li_115, li_116, li_121, li_122, li_200, li_255, li_256, li_300, li_999, li_1000, li_12345, li_65535, li_1103515245]
  (repeat (simp (disch := omega) only [li_0, li_1, li_2, li_3, li_4, li_5, li_6, li_7, li_8, li_9, li_10, li_11, li_12, li_13, li_14, li_15, li_16, li_17, li_18, li_19, li_20, li_21, li_22, li_23, li_24, li_25, li_26, li_27, li_28, li_29, li_30, li_31, li_32, li_34, li_35, li_40, li_41, li_45, li_48, li_49, li_50, li_57, li_58, li_59, li_60, li_61, li_64, li_65, li_97, li_99, li_100, li_115, li_116, li_121, li_122, li_200, li_255, li_256, li_300, li_999, li_1000, li_12345, li_65535, li_1103515245, if_true, if_false, nI_add, pk_mul, pk_sub, s_div, s_rem, s_cl, p_le_t, p_le_f, p_lt_t, p_lt_f, p_eq_t, p_eq_f, bd1_s, bd2_s, bd3_s, nm_s, gd_t, gd_in, gd_nz, gd_bz0, gd_bz1, gd_cp, l3]))
  rcases num_cases g1 cnt (by omega) with ho | ⟨k, hk, rfl⟩
  · exact ⟨-1, nI cnt, nI un, r 14, r 15, r 13, nI 0, rm 4, by rw [has_out ho]; (repeat (simp (disch := omega) only [li_0, li_1, li_2, li_3, li_4, li_5, li_6, li_7, li_8, li_9, li_10, li_11, li_12, li_13, li_14, li_15, li_16, li_17, li_18, li_19, li_20, li_21, li_22, li_23, li_24, li_25, li_26, li_27, li_28, li_29, li_30, li_31, li_32, li_34, li_35, li_40, li_41, li_45, li_48, li_49, li_50, li_57, li_58, li_59, li_60, li_61, li_64, li_65, li_97, li_99, li_100, li_115, li_116, li_121, li_122, li_200, li_255, li_256, li_300, li_999, li_1000, li_12345, li_65535, li_1103515245, if_true, if_false, nI_add, pk_mul, pk_sub, s_div, s_rem, s_cl, p_le_t, p_le_f, p_lt_t, p_lt_f, p_eq_t, p_eq_f, bd1_s, bd2_s, bd3_s, nm_s, gd_t, gd_in, gd_nz, gd_bz0, gd_bz1, gd_cp])), by rw [mb_out (by omega) ho]; (repeat (simp (disch := omega) only [li_0, li_1, li_2, li_3, li_4, li_5, li_6, li_7, li_8, li_9, li_10, li_11, li_12, li_13, li_14, li_15, li_16, li_17, li_18, li_19, li_20, li_21, li_22, li_23, li_24, li_25, li_26, li_27, li_28, li_29, li_30, li_31, li_32, li_34, li_35, li_40, li_41, li_45, li_48, li_49, li_50, li_57, li_58, li_59, li_60, li_61, li_64, li_65, li_97, li_99, li_100, li_115, li_116, li_121, li_122, li_200, li_255, li_256, li_300, li_999, li_1000, li_12345, li_65535, li_1103515245, if_true, if_false, nI_add, pk_mul, pk_sub, s_div, s_rem, s_cl, p_le_t, p_le_f, p_lt_t, p_lt_f, p_eq_t, p_eq_f, bd1_s, bd2_s, bd3_s, nm_s, gd_t, gd_in, gd_nz, gd_bz0, gd_bz1, gd_cp])), n, ns, nt, sa, sp, sb, hS, hT, ⟨⟨d0, hd0, n1, n2⟩, n3, n4, cnt, un, ld, ub, uk, ud, cn, ⟨l1, rfl, l3, l4, l5⟩, ⟨u1, rfl, u3, u4, u5⟩⟩, hI0, hI1, hO, hEe, htr, m8, m13, m17, m19, m33⟩
  rw [x_has hk (by omega), mb_in hk (by omega)]
  obtain ⟨un', sh, up', pl', q1, q2, q3, q4, q5⟩ := x_lose u1 (r 14) (r 15)
  obtain ⟨un2, sh2, s', p1, p2, p3, p4, p5, p6, p7, p8, p9, p10⟩ := m_notes (k := k) (by omega) u1 (rm 4) u3 (nI 0)
  have hun : un2 = un' := by rw [p3, q3]
  subst hun
  have hsh : sh2 = sh := by omega
  subst hsh
  obtain ⟨s2', g1', g2', g3'⟩ := m_goesOut (c := cnt - 1) (k := k) (by omega) (by omega) s' (by rw [p9 6 (by omega), show cnt - 1 + 1 = cnt by omega]; exact l3)
  have hins : f_X6_insertFrom (nI 6) (nI un2) (nI cnt) up' (r 13) (nI k) (nI un2) = some (nI (un2 + 1), va_cpy (r 13) (va_cpy up' up' (un2 * 5) (un2 * 5 + 5) ((un2 - un2) * 5)) (k * 5) (un2 * 5) 5) := by
    unfold f_X6_insertFrom f_X6_isFull
    rw [x_has hk (by omega)]
    simp only [li_0, li_1, li_2, li_3, li_4, li_5, li_6, li_7, li_8, li_9, li_10, li_11, li_12, li_13, li_14, li_15, li_16, li_17, li_18, li_19, li_20, li_21, li_22, li_23, li_24, li_25, li_26, li_27, li_28, li_29, li_30, li_31, li_32, li_34, li_35, li_40, li_41, li_45, li_48, li_49, li_50, li_57, li_58, li_59, li_60, li_61, li_64, li_65, li_97, li_99, li_100, li_115, li_116, li_121, li_122, li_200, li_255, li_256, li_300, li_999, li_1000, li_12345, li_65535, li_1103515245]
    rw [wi_in (a := 0) (show 0 ≤ un2 by omega) (Nat.le_refl un2) (by omega)]
    (repeat (simp (disch := omega) only [li_0, li_1, li_2, li_3, li_4, li_5, li_6, li_7, li_8, li_9, li_10, li_11, li_12, li_13, li_14, li_15, li_16, li_17, li_18, li_19, li_20, li_21, li_22, li_23, li_24, li_25, li_26, li_27, li_28, li_29, li_30, li_31, li_32, li_34, li_35, li_40, li_41, li_45, li_48, li_49, li_50, li_57, li_58, li_59, li_60, li_61, li_64, li_65, li_97, li_99, li_100, li_115, li_116, li_121, li_122, li_200, li_255, li_256, li_300, li_999, li_1000, li_12345, li_65535, li_1103515245, if_true, if_false, nI_add, pk_mul, pk_sub, s_div, s_rem, s_cl, p_le_t, p_le_f, p_lt_t, p_lt_f, p_eq_t, p_eq_f, bd1_s, bd2_s, bd3_s, nm_s, gd_t, gd_in, gd_nz, gd_bz0, gd_bz1, gd_cp]))
  refine ⟨nI (cnt - 1), nI (cnt - 1), nI (un2 + 1), va_cpy (r 13) (va_cpy up' up' (un2 * 5) (un2 * 5 + 5) ((un2 - un2) * 5)) (k * 5) (un2 * 5) 5, upd pl' un2 (nI k), va_cpy (r 13) (r 13) (k * 5 + 5) (k * 5) ((cnt - k - 1) * 5), nI 0, s2', ?_, ?_, n, ns, nt, sa, sp, sb, hS, hT, ?_, hI0, hI1, hO, hEe, htr, m8, m13, m17, m19, m33⟩
  · (repeat (simp (disch := omega) only [li_0, li_1, li_2, li_3, li_4, li_5, li_6, li_7, li_8, li_9, li_10, li_11, li_12, li_13, li_14, li_15, li_16, li_17, li_18, li_19, li_20, li_21, li_22, li_23, li_24, li_25, li_26, li_27, li_28, li_29, li_30, li_31, li_32, li_34, li_35, li_40, li_41, li_45, li_48, li_49, li_50, li_57, li_58, li_59, li_60, li_61, li_64, li_65, li_97, li_99, li_100, li_115, li_116, li_121, li_122, li_200, li_255, li_256, li_300, li_999, li_1000, li_12345, li_65535, li_1103515245, if_true, if_false, nI_add, pk_mul, pk_sub, s_div, s_rem, s_cl, p_le_t, p_le_f, p_lt_t, p_lt_f, p_eq_t, p_eq_f, bd1_s, bd2_s, bd3_s, nm_s, gd_t, gd_in, gd_nz, gd_bz0, gd_bz1, gd_cp, q4, hins, x_removeAt l1 hk]))
  · (repeat (simp (disch := omega) only [li_0, li_1, li_2, li_3, li_4, li_5, li_6, li_7, li_8, li_9, li_10, li_11, li_12, li_13, li_14, li_15, li_16, li_17, li_18, li_19, li_20, li_21, li_22, li_23, li_24, li_25, li_26, li_27, li_28, li_29, li_30, li_31, li_32, li_34, li_35, li_40, li_41, li_45, li_48, li_49, li_50, li_57, li_58, li_59, li_60, li_61, li_64, li_65, li_97, li_99, li_100, li_115, li_116, li_121, li_122, li_200, li_255, li_256, li_300, li_999, li_1000, li_12345, li_65535, li_1103515245, if_true, if_false, nI_add, pk_mul, pk_sub, s_div, s_rem, s_cl, p_le_t, p_le_f, p_lt_t, p_lt_f, p_eq_t, p_eq_f, bd1_s, bd2_s, bd3_s, nm_s, gd_t, gd_in, gd_nz, gd_bz0, gd_bz1, gd_cp, p4, g1', g2']))
  · have hU' : ∃ (ub' : Nat → Bool) (uk' ud' cn' : Nat → Nat), gU n nt (cnt - 1) (un2 + 1) ub' uk' ud' cn' (nI (un2 + 1)) (va_cpy (r 13) (va_cpy up' up' (un2 * 5) (un2 * 5 + 5) ((un2 - un2) * 5)) (k * 5) (un2 * 5) 5) (upd pl' un2 (nI k)) s2' := by
      have hi2 : ∀ j, 57 ≤ j → s2' j = s' j := fun j hj => by rw [g3' j (by omega), if_neg (by omega)]
      refine gU_push (b := false) (k := k) (rd := fun j => ld (5 * k + j)) hU p1 p2 rfl (by rw [hi2 57 (by omega)]; exact p5) (fun e he => ⟨?_, fun j hj => ?_, fun j hj => ?_⟩) l1 (by rw [hi2 _ (by omega)]; exact p6) (by rw [hi2 _ (by omega)]; exact p7) (fun h => by cases h) (fun _ => ⟨pk_us, by omega, by omega, ?_, fun j hj => ⟨?_, ?_⟩⟩)
      · rw [pk_un (by omega)]
        exact (q5 e he).1
      · rw [pk_cpy_out (by omega), pk_cpy_out (by omega)]
        exact (q5 e he).2 j hj
      · rw [hi2 _ (by omega), p10 e he j hj]
      · exact l5 k hk
      · rw [pk_cpy_in (by omega) (by omega), show k * 5 + (5 * un2 + j - un2 * 5) = 5 * k + j by omega]
        exact (l4 _ (by omega)).1
      · rw [hi2 _ (by omega), p8 j hj, show 7 + 5 * k + j = 7 + (5 * k + j) by omega]
        exact (l4 _ (by omega)).2
    obtain ⟨ub', uk', ud', cn', hU'⟩ := hU'
    refine ⟨⟨d0, hd0, n1, ?_⟩, ?_, fun j hj => ?_, cnt - 1, un2 + 1, outL ld k, ub', uk', ud', cn', ⟨by omega, rfl, g2', fun j hj => ?_, outL_ok l5 hk⟩, hU'⟩
    · show s2' 0 = _
      rw [g3' 0 (by omega), if_neg (by omega), p9 0 (by omega)]
      exact n2
    · show v 16 = s2' 1
      rw [g3' 1 (by omega), if_neg (by omega), p9 1 (by omega)]
      exact n3
    · show r 12 j = s2' (2 + j)
      rw [g3' _ (by omega), if_neg (by omega), p9 _ (by omega)]
      exact n4 j hj
    · show va_cpy (r 13) (r 13) (k * 5 + 5) (k * 5) ((cnt - k - 1) * 5) j = _ ∧ s2' (7 + j) = _
      rw [g3' _ (by omega)]
      unfold outL
      by_cases hj2 : j < 5 * k
      · rw [if_pos hj2, pk_cpy_out (by omega), if_neg (by omega), p9 _ (by omega)]
        exact l4 j (by omega)
      · rw [if_neg hj2, pk_cpy_in (by omega) (by omega), if_pos (by omega), p9 _ (by omega), show k * 5 + 5 + (j - k * 5) = j + 5 by omega, show 7 + j + 5 = 7 + (j + 5) by omega]
        exact l4 (j + 5) (by omega)
/-- the reference puts a row back -/
theorem m_undo117 {k at_ : Nat} (hk : k ≤ 9) (hat : 58 ≤ at_) (hat2 : at_ + 7 ≤ 100) (th : Int32) : ∀ (r c nn : Nat) (s : Nat → Int32), c + r = 5 → r < nn → ∃ s' : Nat → Int32, f_X9_undo_b117 (nI at_) (nI k) th nn (nI c) s = some (s 6 + nI 1, th, s') ∧ s' 6 = s 6 + nI 1 ∧ ∀ j, j ≠ 6 → s' j = if 7 + 5 * k + c ≤ j ∧ j < 7 + 5 * k + 5 then s (at_ + 2 + (j - (7 + 5 * k))) else s j := by
  intro r
  induction r with
  | zero =>
    intro c nn s hc hnn
    obtain ⟨m, rfl⟩ : ∃ m, nn = m + 1 := ⟨nn - 1, by omega⟩
    rw [f_X9_undo_b117]
    unfold f_X9_undo_b162
    refine ⟨upd s 6 (s 6 + nI 1), by (repeat (simp (disch := omega) only [li_0, li_1, li_2, li_3, li_4, li_5, li_6, li_7, li_8, li_9, li_10, li_11, li_12, li_13, li_14, li_15, li_16, li_17, li_18, li_19, li_20, li_21, li_22, li_23, li_24, li_25, li_26, li_27, li_28, li_29, li_30, li_31, li_32, li_34, li_35, li_40, li_41, li_45, li_48, li_49, li_50, li_57, li_58, li_59, li_60, li_61, li_64, li_65, li_97, li_99, li_100, li_115, li_116, li_121, li_122, li_200, li_255, li_256, li_300, li_999, li_1000, li_12345, li_65535, li_1103515245, if_true, if_false, nI_add, pk_mul, pk_sub, s_div, s_rem, s_cl, p_le_t, p_le_f, p_lt_t, p_lt_f, p_eq_t, p_eq_f, bd1_s, bd2_s, bd3_s, nm_s, gd_t, gd_in, gd_nz, gd_bz0, gd_bz1, gd_cp, pk_us])), pk_us, fun j hj => ?_⟩
    rw [pk_un hj, if_neg (by omega)]
  | succ r ih =>
    intro c nn s hc hnn
    obtain ⟨m, rfl⟩ : ∃ m, nn = m + 1 := ⟨nn - 1, by omega⟩
    rw [f_X9_undo_b117]
    obtain ⟨s', h1, h2, h3⟩ := ih (c + 1) m (upd s (7 + 5 * k + c) (s (at_ + 2 + c))) (by omega) (by omega)
    rw [pk_un (by omega)] at h1 h2
    refine ⟨s', by (repeat (simp (disch := omega) only [li_0, li_1, li_2, li_3, li_4, li_5, li_6, li_7, li_8, li_9, li_10, li_11, li_12, li_13, li_14, li_15, li_16, li_17, li_18, li_19, li_20, li_21, li_22, li_23, li_24, li_25, li_26, li_27, li_28, li_29, li_30, li_31, li_32, li_34, li_35, li_40, li_41, li_45, li_48, li_49, li_50, li_57, li_58, li_59, li_60, li_61, li_64, li_65, li_97, li_99, li_100, li_115, li_116, li_121, li_122, li_200, li_255, li_256, li_300, li_999, li_1000, li_12345, li_65535, li_1103515245, if_true, if_false, nI_add, pk_mul, pk_sub, s_div, s_rem, s_cl, p_le_t, p_le_f, p_lt_t, p_lt_f, p_eq_t, p_eq_f, bd1_s, bd2_s, bd3_s, nm_s, gd_t, gd_in, gd_nz, gd_bz0, gd_bz1, gd_cp, h1])), h2, fun j hj => ?_⟩
    rw [h3 j hj]
    by_cases h4 : 7 + 5 * k + (c + 1) ≤ j ∧ j < 7 + 5 * k + 5
    · rw [if_pos h4, if_pos (by omega), pk_un (by omega)]
    · rw [if_neg h4]
      by_cases h5 : j = 7 + 5 * k + c
      · subst h5
        rw [pk_us, if_pos (by omega), show 7 + 5 * k + c - (7 + 5 * k) = c by omega]
      · rw [pk_un h5, if_neg (by omega)]
theorem s_pred {a : Nat} (h : 0 < a) : nI a + -1 = nI (a - 1) := sb_m1 h
theorem s_m1 (x : Int32) : x + -nI 1 = x - nI 1 := by grind
theorem ne_m1 {k : Nat} (h : k < 2147483648) : ¬ nI k = -nI 1 := by
  intro e
  have h1 := congrArg Int32.toInt e
  rw [toI_nI h] at h1
  have h2 : (-nI 1).toInt = -1 := rfl
  omega
/-- from place e - 1 down to 5 k the row goes up by five -/
theorem m_undo82 {k at_ : Nat} (hk : k ≤ 9) (hat : 58 ≤ at_) (hat2 : at_ + 7 ≤ 100) (th : Int32) : ∀ (r e nn : Nat) (s : Nat → Int32), e = 5 * k + r → e ≤ 45 → r < nn → ∃ s1 : Nat → Int32, f_X9_undo_b82 (nI at_) (nI k) th nn (nI e - nI 1) s = f_X9_undo_b117 (nI at_) (nI k) th zF (nI 0) s1 ∧ ∀ j, s1 j = if 12 + 5 * k ≤ j ∧ j < 12 + e then s (j - 5) else s j := by
  intro r
  induction r with
  | zero =>
    intro e nn s he he2 hnn
    obtain ⟨m, rfl⟩ : ∃ m, nn = m + 1 := ⟨nn - 1, by omega⟩
    rw [f_X9_undo_b82]
    have hlt : nI e - nI 1 < nI 5 * nI k := by
      rw [pk_mul, Int32.lt_iff_toInt_lt, pk_sub_toInt (by omega) (by decide), toI_nI (by omega)]
      omega
    refine ⟨s, ?_, fun j => ?_⟩
    · simp only [li_0, li_1, li_2, li_3, li_4, li_5, li_6, li_7, li_8, li_9, li_10, li_11, li_12, li_13, li_14, li_15, li_16, li_17, li_18, li_19, li_20, li_21, li_22, li_23, li_24, li_25, li_26, li_27, li_28, li_29, li_30, li_31, li_32, li_34, li_35, li_40, li_41, li_45, li_48, li_49, li_50, li_57, li_58, li_59, li_60, li_61, li_64, li_65, li_97, li_99, li_100, li_115, li_116, li_121, li_122, li_200, li_255, li_256, li_300, li_999, li_1000, li_12345, li_65535, li_1103515245, hlt, if_true]
    · rw [if_neg (by omega)]
  | succ r ih =>
    intro e nn s he he2 hnn
    obtain ⟨m, rfl⟩ : ∃ m, nn = m + 1 := ⟨nn - 1, by omega⟩
    rw [f_X9_undo_b82]
    obtain ⟨s1, h1, h2⟩ := ih (e - 1) m (upd s (7 + (e - 1) + 5) (s (7 + (e - 1)))) (by omega) (by omega) (by omega)
    refine ⟨s1, ?_, fun j => ?_⟩
    · rw [pk_sub (show 1 ≤ e by omega)]
      rw [← h1]
      simp (disch := omega) only [li_0, li_1, li_2, li_3, li_4, li_5, li_6, li_7, li_8, li_9, li_10, li_11, li_12, li_13, li_14, li_15, li_16, li_17, li_18, li_19, li_20, li_21, li_22, li_23, li_24, li_25, li_26, li_27, li_28, li_29, li_30, li_31, li_32, li_34, li_35, li_40, li_41, li_45, li_48, li_49, li_50, li_57, li_58, li_59, li_60, li_61, li_64, li_65, li_97, li_99, li_100, li_115, li_116, li_121, li_122, li_200, li_255, li_256, li_300, li_999, li_1000, li_12345, li_65535, li_1103515245, nI_add, pk_mul, s_cl, p_lt_f, if_false, gd_in, nm_s, s_m1]
    · rw [h2 j]
      by_cases h4 : 12 + 5 * k ≤ j ∧ j < 12 + (e - 1)
      · rw [if_pos h4, if_pos (by omega), pk_un (by omega)]
      · rw [if_neg h4]
        by_cases h5 : j = 7 + (e - 1) + 5
        · subst h5
          rw [pk_us, if_pos (by omega), show 7 + (e - 1) + 5 - 5 = 7 + (e - 1) by omega]
        · rw [pk_un h5, if_neg (by omega)]
/-- one row in, at k -/
def inL {α : Type} (ld rd : Nat → α) (k : Nat) : Nat → α := fun j => if j < 5 * k then ld j else if j < 5 * k + 5 then rd (j - 5 * k) else ld (j - 5)
theorem inL_ok {n nt : Nat} {ld rd : Nat → Nat} {cnt k : Nat} (h : ∀ i, i < cnt → okL n nt ld i) (hr : okL n nt rd 0) (hk : k ≤ cnt) : ∀ i, i < cnt + 1 → okL n nt (inL ld rd k) i := by
  intro i hi
  by_cases h1 : i < k
  · have := h i (by omega)
    unfold okL inL at *
    rw [if_pos (by omega), if_pos (by omega), if_pos (by omega), if_pos (by omega), if_pos (by omega)]
    exact this
  · by_cases h2 : i = k
    · subst h2
      unfold okL inL at *
      rw [if_neg (by omega), if_pos (by omega), if_neg (by omega), if_pos (by omega), if_neg (by omega), if_pos (by omega), if_neg (by omega), if_pos (by omega), if_neg (by omega), if_pos (by omega), show 5 * i - 5 * i = 0 by omega, show 5 * i + 1 - 5 * i = 1 by omega, show 5 * i + 2 - 5 * i = 2 by omega, show 5 * i + 3 - 5 * i = 3 by omega, show 5 * i + 4 - 5 * i = 4 by omega]
      exact hr
    · have := h (i - 1) (by omega)
      unfold okL inL at *
      rw [if_neg (by omega), if_neg (by omega), if_neg (by omega), if_neg (by omega), if_neg (by omega), if_neg (by omega), if_neg (by omega), if_neg (by omega), if_neg (by omega), if_neg (by omega)]
      rw [show 5 * (i - 1) = 5 * i - 5 by omega] at this
      rw [show 5 * i + 1 - 5 = 5 * i - 5 + 1 by omega, show 5 * i + 2 - 5 = 5 * i - 5 + 2 by omega, show 5 * i + 3 - 5 = 5 * i - 5 + 3 by omega, show 5 * i + 4 - 5 = 5 * i - 5 + 4 by omega]
      exact this
theorem gU_pop {n nt cnt un cnt' : Nat} {ub : Nat → Bool} {uk ud cn : Nat → Nat} {usize : Int32} {up pl s up' s' : Nat → Int32} (h : gU n nt cnt (un + 1) ub uk ud cn usize up pl s) (hc : cn un = cnt') (h57 : s' 57 = nI un) (hs : ∀ j, 58 ≤ j → j < 58 + 7 * un → s' j = s j) (hu : ∀ j, j < 5 * un → up' j = up j) : gU n nt cnt' un ub uk ud cn (nI un) up' pl s' := by
  obtain ⟨a1, a2, a3, a4, a5⟩ := h
  refine ⟨by omega, rfl, h57, hc, fun e he => ?_⟩
  obtain ⟨g1, g2, g3, g4, g5⟩ := a5 e (by omega)
  refine ⟨g1, by rw [hs _ (by omega) (by omega)]; exact g2, by rw [hs _ (by omega) (by omega)]; exact g3, g4, fun hb => ?_⟩
  obtain ⟨k1, k2, k3, k4, k5⟩ := g5 hb
  exact ⟨k1, k2, k3, k4, fun j hj => ⟨by rw [hu _ (by omega)]; exact (k5 j hj).1, by rw [hs _ (by omega) (by omega)]; exact (k5 j hj).2⟩⟩
