theorem pm_undo (v : Nat → Int32) (r : Nat → Nat → Int32) (t : Int64) (vm : Nat → Int32) (rm : Nat → Nat → Int32) (tm : Int64) (hI : Inv v r t vm rm tm)  : ∃ (R0 : Int32) (w0 : Int32) (w1 : Int32) (w2 : Nat → Int32) (w3 : Nat → Int32) (z0 : Int32) (z1 : Nat → Int32), f_X8_undo (v 20) (v 17) (v 18) (r 15) (r 13) (r 14) = some (R0, w0, w1, w2, w3) ∧ f_X9_undo (vm 0) (rm 4) = some (R0, z0, z1) ∧ Inv (upd (upd v 20 w0) 18 w1) (updA (updA r 13 w2) 14 w3) t (upd vm 0 z0) (updA rm 4 z1) tm := by
  obtain ⟨n, ns, nt, sa, sp, sb, hS, hT, hN, hI0, hI1, hO, hEe, htr, m8, m13, m17, m19, m33⟩ := id hI
  obtain ⟨b1, b2, b3, b4, s1, s2, s3, s4, s5, s6, hst⟩ := id hS
  obtain ⟨⟨d0, hd0, n1, n2⟩, n3, n4, cnt, un, ld, ub, uk, ud, cn, hL, hU⟩ := id hN
  obtain ⟨l1, l2, l3, l4, l5⟩ := id hL
  obtain ⟨u1, u2, u3, u4, u5⟩ := id hU
  unfold f_X8_undo f_X9_undo f_X2_undoLatest f_X2_undoLatest_b60 f_X9_undo_b162
  rw [l2, u2, m17]
  simp only [li_0, li_1, li_2, li_3, li_4, li_5, li_6, li_7, li_8, li_9, li_10, li_11, li_12, li_13, li_14, li_15, li_16, li_17, li_18, li_19, li_20, li_21, li_22, li_23, li_24, li_25, li_26, li_27, li_28, li_29, li_30, li_31, li_32, li_34, li_35, li_40, li_41, li_45, li_48, li_49, li_50, li_57, li_58, li_59, li_60, li_61, li_64, li_65, li_97, li_99, li_100, li_115, li_116, li_121, li_122, li_200, li_255, li_256, li_300, li_999, li_1000, li_12345, li_65535, li_1103515245]
  by_cases h0 : un = 0
  · subst h0
    exact ⟨-2, nI 0, nI cnt, r 13, r 14, nI 0, rm 4, by (repeat (simp (disch := omega) only [li_0, li_1, li_2, li_3, li_4, li_5, li_6, li_7, li_8, li_9, li_10, li_11, li_12, li_13, li_14, li_15, li_16, li_17, li_18, li_19, li_20, li_21, li_22, li_23, li_24, li_25, li_26, li_27, li_28, li_29, li_30, li_31, li_32, li_34, li_35, li_40, li_41, li_45, li_48, li_49, li_50, li_57, li_58, li_59, li_60, li_61, li_64, li_65, li_97, li_99, li_100, li_115, li_116, li_121, li_122, li_200, li_255, li_256, li_300, li_999, li_1000, li_12345, li_65535, li_1103515245, if_true, if_false, nI_add, pk_mul, pk_sub, s_div, s_rem, s_cl, p_le_t, p_le_f, p_lt_t, p_lt_f, p_eq_t, p_eq_f, bd1_s, bd2_s, bd3_s, nm_s, gd_t, gd_in, gd_nz, gd_bz0, gd_bz1, gd_cp])), by (repeat (simp (disch := omega) only [li_0, li_1, li_2, li_3, li_4, li_5, li_6, li_7, li_8, li_9, li_10, li_11, li_12, li_13, li_14, li_15, li_16, li_17, li_18, li_19, li_20, li_21, li_22, li_23, li_24, li_25, li_26, li_27, li_28, li_29, li_30, li_31, li_32, li_34, li_35, li_40, li_41, li_45, li_48, li_49, li_50, li_57, li_58, li_59, li_60, li_61, li_64, li_65, li_97, li_99, li_100, li_115, li_116, li_121, li_122, li_200, li_255, li_256, li_300, li_999, li_1000, li_12345, li_65535, li_1103515245, if_true, if_false, nI_add, pk_mul, pk_sub, s_div, s_rem, s_cl, p_le_t, p_le_f, p_lt_t, p_lt_f, p_eq_t, p_eq_f, bd1_s, bd2_s, bd3_s, nm_s, gd_t, gd_in, gd_nz, gd_bz0, gd_bz1, gd_cp, u3])), n, ns, nt, sa, sp, sb, hS, hT, ⟨⟨d0, hd0, n1, n2⟩, n3, n4, cnt, 0, ld, ub, uk, ud, cn, ⟨l1, rfl, l3, l4, l5⟩, ⟨u1, rfl, u3, u4, u5⟩⟩, hI0, hI1, hO, hEe, htr, m8, m13, m17, m19, m33⟩
  obtain ⟨w, rfl⟩ : ∃ w, un = w + 1 := ⟨un - 1, by omega⟩
  have hw : w + 1 - 1 = w := by omega
  obtain ⟨g1, g2, g3, g4, g5⟩ := u5 w (by omega)
  obtain ⟨sA, hsA⟩ : ∃ x : Nat → Int32, upd (rm 4) 57 (nI w) = x := ⟨_, rfl⟩
  have sA57 : sA 57 = nI w := by rw [← hsA, pk_us]
  have sAo : ∀ j, j ≠ 57 → sA j = rm 4 j := fun j hj => by rw [← hsA, pk_un hj]
  have sA6 : sA 6 = nI cnt := by rw [sAo 6 (by omega)]; exact l3
  have sAk : sA (58 + 7 * w + 1) = nI (uk w) := by rw [sAo _ (by omega), show 58 + 7 * w + 1 = 59 + 7 * w by omega]; exact g3
  have hrem : f_X6_removeAt (nI (w + 1)) (r 14) (nI w) = some (nI (w + 1 - 1), va_cpy (r 14) (r 14) (w * 5 + 5) (w * 5) ((w + 1 - w - 1) * 5)) := x_removeAt (by omega) (by omega) (r 14)
  have hhas : f_X6_has (nI (w + 1)) (nI w) = some (nI 1) := x_has (by omega) (by omega)
  have hup : ∀ j, j < 5 * w → va_cpy (r 14) (r 14) (w * 5 + 5) (w * 5) ((w + 1 - w - 1) * 5) j = r 14 j := fun j hj => pk_cpy_out (by omega)
  cases hb : ub w with
  | true =>
    obtain ⟨k1, k2, k3⟩ := g4 hb
    have hpl : r 15 w = -nI 1 := k1
    have hcn : cnt = cn w + 1 := by rw [← u4]; exact k2
    have sAd : sA (58 + 7 * w) = nI 1 := by rw [sAo _ (by omega), g2, if_pos hb]; rfl
    have hrl : f_X6_removeAt (nI cnt) (r 13) (nI (cnt - 1)) = some (nI (cnt - 1), va_cpy (r 13) (r 13) ((cnt - 1) * 5 + 5) ((cnt - 1) * 5) ((cnt - (cnt - 1) - 1) * 5)) := x_removeAt l1 (by omega) (r 13)
    obtain ⟨s2', q1, q2, q3⟩ := m_goesOut (c := cnt - 1) (k := uk w) (by omega) (by omega) sA (by rw [show cnt - 1 + 1 = cnt by omega]; exact sA6)
    have hU2 := gU_pop (s' := s2') (cnt' := cnt - 1) hU (by omega) (by rw [q3 57 (by omega), if_neg (by omega)]; exact sA57) (fun j hj hj2 => by rw [q3 j (by omega), if_neg (by omega), sAo j (by omega)]) hup
    refine ⟨nI (cnt - 1), nI w, nI (cnt - 1), va_cpy (r 13) (r 13) ((cnt - 1) * 5 + 5) ((cnt - 1) * 5) ((cnt - (cnt - 1) - 1) * 5), va_cpy (r 14) (r 14) (w * 5 + 5) (w * 5) ((w + 1 - w - 1) * 5), nI 0, s2', ?_, ?_, n, ns, nt, sa, sp, sb, hS, hT, ⟨⟨d0, hd0, n1, ?_⟩, ?_, fun j hj => ?_, cnt - 1, w, ld, ub, uk, ud, cn, ⟨by omega, rfl, q2, fun j hj => ?_, fun k hk => l5 k (by omega)⟩, hU2⟩, hI0, hI1, hO, hEe, htr, m8, m13, m17, m19, m33⟩
    · (repeat (simp (disch := omega) only [li_0, li_1, li_2, li_3, li_4, li_5, li_6, li_7, li_8, li_9, li_10, li_11, li_12, li_13, li_14, li_15, li_16, li_17, li_18, li_19, li_20, li_21, li_22, li_23, li_24, li_25, li_26, li_27, li_28, li_29, li_30, li_31, li_32, li_34, li_35, li_40, li_41, li_45, li_48, li_49, li_50, li_57, li_58, li_59, li_60, li_61, li_64, li_65, li_97, li_99, li_100, li_115, li_116, li_121, li_122, li_200, li_255, li_256, li_300, li_999, li_1000, li_12345, li_65535, li_1103515245, if_true, if_false, nI_add, pk_mul, pk_sub, s_div, s_rem, s_cl, p_le_t, p_le_f, p_lt_t, p_lt_f, p_eq_t, p_eq_f, bd1_s, bd2_s, bd3_s, nm_s, gd_t, gd_in, gd_nz, gd_bz0, gd_bz1, gd_cp, hw, hhas, hpl, hrl, hrem, bd4_s, eq_self, if_true]))
    · (repeat (simp (disch := omega) only [li_0, li_1, li_2, li_3, li_4, li_5, li_6, li_7, li_8, li_9, li_10, li_11, li_12, li_13, li_14, li_15, li_16, li_17, li_18, li_19, li_20, li_21, li_22, li_23, li_24, li_25, li_26, li_27, li_28, li_29, li_30, li_31, li_32, li_34, li_35, li_40, li_41, li_45, li_48, li_49, li_50, li_57, li_58, li_59, li_60, li_61, li_64, li_65, li_97, li_99, li_100, li_115, li_116, li_121, li_122, li_200, li_255, li_256, li_300, li_999, li_1000, li_12345, li_65535, li_1103515245, if_true, if_false, nI_add, pk_mul, pk_sub, s_div, s_rem, s_cl, p_le_t, p_le_f, p_lt_t, p_lt_f, p_eq_t, p_eq_f, bd1_s, bd2_s, bd3_s, nm_s, gd_t, gd_in, gd_nz, gd_bz0, gd_bz1, gd_cp, u3, hw, hsA, sA57, sAk, sAd, q1, q2]))
    · show s2' 0 = _
      rw [q3 0 (by omega), if_neg (by omega), sAo 0 (by omega)]
      exact n2
    · show v 16 = s2' 1
      rw [q3 1 (by omega), if_neg (by omega), sAo 1 (by omega)]
      exact n3
    · show r 12 j = s2' (2 + j)
      rw [q3 _ (by omega), if_neg (by omega), sAo _ (by omega)]
      exact n4 j hj
    · show va_cpy (r 13) (r 13) ((cnt - 1) * 5 + 5) ((cnt - 1) * 5) ((cnt - (cnt - 1) - 1) * 5) j = _ ∧ s2' (7 + j) = _
      rw [pk_cpy_out (by omega), q3 _ (by omega), if_neg (by omega), sAo _ (by omega)]
      exact l4 j (by omega)
  | false =>
    obtain ⟨k1, k2, k3, k4, k5⟩ := g5 hb
    have hcn : cn w = cnt + 1 := by rw [← u4]; exact k2
    have hkc : uk w ≤ cnt := by rw [← u4]; exact k3
    have sAd : sA (58 + 7 * w) = nI 0 := by rw [sAo _ (by omega), g2, if_neg (by rw [hb]; decide)]; rfl
    have hins : f_X6_insertFrom (nI 10) (nI cnt) (nI (w + 1)) (r 13) (r 14) (nI w) (nI (uk w)) = some (nI (cnt + 1), va_cpy (r 14) (va_cpy (r 13) (r 13) (uk w * 5) (uk w * 5 + 5) ((cnt - uk w) * 5)) (w * 5) (uk w * 5) 5) := by
      unfold f_X6_insertFrom f_X6_isFull
      rw [hhas]
      simp only [li_0, li_1, li_2, li_3, li_4, li_5, li_6, li_7, li_8, li_9, li_10, li_11, li_12, li_13, li_14, li_15, li_16, li_17, li_18, li_19, li_20, li_21, li_22, li_23, li_24, li_25, li_26, li_27, li_28, li_29, li_30, li_31, li_32, li_34, li_35, li_40, li_41, li_45, li_48, li_49, li_50, li_57, li_58, li_59, li_60, li_61, li_64, li_65, li_97, li_99, li_100, li_115, li_116, li_121, li_122, li_200, li_255, li_256, li_300, li_999, li_1000, li_12345, li_65535, li_1103515245]
      rw [wi_in (a := 0) (show 0 ≤ uk w by omega) hkc (by omega)]
      (repeat (simp (disch := omega) only [li_0, li_1, li_2, li_3, li_4, li_5, li_6, li_7, li_8, li_9, li_10, li_11, li_12, li_13, li_14, li_15, li_16, li_17, li_18, li_19, li_20, li_21, li_22, li_23, li_24, li_25, li_26, li_27, li_28, li_29, li_30, li_31, li_32, li_34, li_35, li_40, li_41, li_45, li_48, li_49, li_50, li_57, li_58, li_59, li_60, li_61, li_64, li_65, li_97, li_99, li_100, li_115, li_116, li_121, li_122, li_200, li_255, li_256, li_300, li_999, li_1000, li_12345, li_65535, li_1103515245, if_true, if_false, nI_add, pk_mul, pk_sub, s_div, s_rem, s_cl, p_le_t, p_le_f, p_lt_t, p_lt_f, p_eq_t, p_eq_f, bd1_s, bd2_s, bd3_s, nm_s, gd_t, gd_in, gd_nz, gd_bz0, gd_bz1, gd_cp]))
    obtain ⟨s1', q1, q2⟩ := m_undo82 (k := uk w) (at_ := 58 + 7 * w) (by omega) (by omega) (by omega) (nI 0) (5 * cnt - 5 * uk w) (5 * cnt) zF sA (by omega) (by omega) (by unfold zF; omega)
    obtain ⟨s2', p1, p2, p3⟩ := m_undo117 (k := uk w) (at_ := 58 + 7 * w) (by omega) (by omega) (by omega) (nI 0) 5 0 zF s1' (by omega) (by unfold zF; omega)
    have s16 : s1' 6 = nI cnt := by rw [q2 6, if_neg (by omega)]; exact sA6
    rw [s16, nI_add] at p1 p2
    have s2o : ∀ j, j ≠ 6 → (j < 7 + 5 * uk w ∨ 57 ≤ j) → s2' j = sA j := fun j hj hj2 => by rw [p3 j hj, if_neg (by omega), q2 j, if_neg (by omega)]
    have hne := ne_m1 (k := uk w) (by omega)
    have hU2 := gU_pop (s' := s2') hU hcn (by rw [s2o 57 (by omega) (by omega)]; exact sA57) (fun j hj hj2 => by rw [s2o j (by omega) (by omega), sAo j (by omega)]) hup
    refine ⟨nI (cnt + 1), nI w, nI (cnt + 1), va_cpy (r 14) (va_cpy (r 13) (r 13) (uk w * 5) (uk w * 5 + 5) ((cnt - uk w) * 5)) (w * 5) (uk w * 5) 5, va_cpy (r 14) (r 14) (w * 5 + 5) (w * 5) ((w + 1 - w - 1) * 5), nI 0, s2', ?_, ?_, n, ns, nt, sa, sp, sb, hS, hT, ⟨⟨d0, hd0, n1, ?_⟩, ?_, fun j hj => ?_, cnt + 1, w, inL ld (fun j => ud (5 * w + j)) (uk w), ub, uk, ud, cn, ⟨by omega, rfl, p2, fun j hj => ?_, inL_ok l5 k4 hkc⟩, hU2⟩, hI0, hI1, hO, hEe, htr, m8, m13, m17, m19, m33⟩
    · (repeat (simp (disch := omega) only [li_0, li_1, li_2, li_3, li_4, li_5, li_6, li_7, li_8, li_9, li_10, li_11, li_12, li_13, li_14, li_15, li_16, li_17, li_18, li_19, li_20, li_21, li_22, li_23, li_24, li_25, li_26, li_27, li_28, li_29, li_30, li_31, li_32, li_34, li_35, li_40, li_41, li_45, li_48, li_49, li_50, li_57, li_58, li_59, li_60, li_61, li_64, li_65, li_97, li_99, li_100, li_115, li_116, li_121, li_122, li_200, li_255, li_256, li_300, li_999, li_1000, li_12345, li_65535, li_1103515245, if_true, if_false, nI_add, pk_mul, pk_sub, s_div, s_rem, s_cl, p_le_t, p_le_f, p_lt_t, p_lt_f, p_eq_t, p_eq_f, bd1_s, bd2_s, bd3_s, nm_s, gd_t, gd_in, gd_nz, gd_bz0, gd_bz1, gd_cp, hw, hhas, k1, hne, hins, hrem, bd4_s]))
    · (repeat (simp (disch := omega) only [li_0, li_1, li_2, li_3, li_4, li_5, li_6, li_7, li_8, li_9, li_10, li_11, li_12, li_13, li_14, li_15, li_16, li_17, li_18, li_19, li_20, li_21, li_22, li_23, li_24, li_25, li_26, li_27, li_28, li_29, li_30, li_31, li_32, li_34, li_35, li_40, li_41, li_45, li_48, li_49, li_50, li_57, li_58, li_59, li_60, li_61, li_64, li_65, li_97, li_99, li_100, li_115, li_116, li_121, li_122, li_200, li_255, li_256, li_300, li_999, li_1000, li_12345, li_65535, li_1103515245, if_true, if_false, nI_add, pk_mul, pk_sub, s_div, s_rem, s_cl, p_le_t, p_le_f, p_lt_t, p_lt_f, p_eq_t, p_eq_f, bd1_s, bd2_s, bd3_s, nm_s, gd_t, gd_in, gd_nz, gd_bz0, gd_bz1, gd_cp, u3, hw, hsA, sA57, sAk, sAd, sA6]))
      rw [q1, p1]
    · show s2' 0 = _
      rw [s2o 0 (by omega) (by omega), sAo 0 (by omega)]
      exact n2
    · show v 16 = s2' 1
      rw [s2o 1 (by omega) (by omega), sAo 1 (by omega)]
      exact n3
    · show r 12 j = s2' (2 + j)
      rw [s2o _ (by omega) (by omega), sAo _ (by omega)]
      exact n4 j hj
    · show va_cpy (r 14) (va_cpy (r 13) (r 13) (uk w * 5) (uk w * 5 + 5) ((cnt - uk w) * 5)) (w * 5) (uk w * 5) 5 j = _ ∧ s2' (7 + j) = _
      unfold inL
      by_cases j1 : j < 5 * uk w
      · rw [if_pos j1, pk_cpy_out (by omega), pk_cpy_out (by omega), s2o _ (by omega) (by omega), sAo _ (by omega)]
        exact l4 j (by omega)
      · rw [if_neg j1]
        by_cases j2 : j < 5 * uk w + 5
        · have z := k5 (j - 5 * uk w) (by omega)
          rw [if_pos j2, pk_cpy_in (by omega) (by omega), p3 _ (by omega), if_pos (by omega), q2 _, if_neg (by omega), sAo _ (by omega), show w * 5 + (j - uk w * 5) = 5 * w + (j - 5 * uk w) by omega, show 58 + 7 * w + 2 + (7 + j - (7 + 5 * uk w)) = 60 + 7 * w + (j - 5 * uk w) by omega]
          exact z
        · rw [if_neg j2, pk_cpy_out (by omega), pk_cpy_in (by omega) (by omega), p3 _ (by omega), if_neg (by omega), q2 _, if_pos (by omega), sAo _ (by omega), show uk w * 5 + (j - (uk w * 5 + 5)) = j - 5 by omega, show 7 + j - 5 = 7 + (j - 5) by omega]
          exact l4 (j - 5) (by omega)
