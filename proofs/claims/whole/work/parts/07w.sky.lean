/-! sky -/
theorem bd4t (x0 x1 x2 x3 : Int32) {γ : Type} (k : Int32 → Int32 → Int32 → Int32 → Option γ) : bd4 (some (x0, x1, x2, x3)) k = k x0 x1 x2 x3 := id rfl
theorem m10_0 : ∀ p, p < 301 → (nI 0 ≤ -nI 10 - nI p) = False := by
  have h : ∀ p, p < 301 → ¬ (nI 0 ≤ -nI 10 - nI p) := by decide +kernel
  exact fun p hp => eq_false (h p hp)
theorem nar_b0 : vp_nar .boolean (nI 0) = nI 0 := id rfl
section SK
variable {len : Nat} {b : Nat → Nat} {bytes text : Nat → Int32}
theorem sky_172D (k41 : Int32 → Int32 → Int32 → Int32 → Int32 → Int32 → Int32 → Int32 → Int32 → Int32 → (Nat → Int32) → (Nat → Int32) → (Nat → Int32) → Option (Int32 × Int32 × Int32 × Int32 × Int32 × Int32 × Int32 × Int32 × Int32 × Int32 × Int32 × Int32 × Int32 × Int32 × Int32 × Int32 × Int32 × (Nat → Int32) × (Nat → Int32) × (Nat → Int32) × (Nat → Int32) × (Nat → Int32))) {p : Nat} (hp : p < 1000000) (x1 nx tk pl val a1 a2 a3 a4 : Int32) (lea pur stars : Nat → Int32) : f_X9_sky_b172 text k41 x1 (nI len) nx tk pl val (nI p) a1 a2 a3 a4 lea pur stars = k41 (x1 + nI 1) nx tk pl val (nI p) a1 a2 a3 a4 lea pur stars := by
  have e := fun t1 => takesD (len := len) (text := text) hp nx tk pl val t1
  unfold f_X9_sky_b172 f_X9_sky_b186
  by_cases h : tk = 3
  · rw [if_pos h]
    (repeat (simp (disch := omega) only [li_0, li_1, li_2, li_3, li_4, li_5, li_6, li_7, li_8, li_9, li_10, li_11, li_12, li_13, li_14, li_15, li_16, li_17, li_18, li_19, li_20, li_21, li_22, li_23, li_24, li_25, li_26, li_27, li_28, li_29, li_30, li_31, li_32, li_34, li_35, li_40, li_41, li_45, li_48, li_49, li_50, li_57, li_58, li_59, li_60, li_61, li_64, li_65, li_97, li_99, li_100, li_115, li_116, li_121, li_122, li_200, li_255, li_256, li_300, li_999, li_1000, li_12345, li_65535, li_1103515245, if_true, if_false, nI_add, pk_mul, pk_sub, s_div, s_rem, s_cl, p_le_t, p_le_f, p_lt_t, p_lt_f, p_eq_t, p_eq_f, bd1_s, bd2_s, bd3_s, nm_s, gd_t, gd_in, gd_nz, gd_bz0, gd_bz1, gd_cp, e, bd6_s]))
  · rw [if_neg h]
    (repeat (simp (disch := omega) only [li_0, li_1, li_2, li_3, li_4, li_5, li_6, li_7, li_8, li_9, li_10, li_11, li_12, li_13, li_14, li_15, li_16, li_17, li_18, li_19, li_20, li_21, li_22, li_23, li_24, li_25, li_26, li_27, li_28, li_29, li_30, li_31, li_32, li_34, li_35, li_40, li_41, li_45, li_48, li_49, li_50, li_57, li_58, li_59, li_60, li_61, li_64, li_65, li_97, li_99, li_100, li_115, li_116, li_121, li_122, li_200, li_255, li_256, li_300, li_999, li_1000, li_12345, li_65535, li_1103515245, if_true, if_false, nI_add, pk_mul, pk_sub, s_div, s_rem, s_cl, p_le_t, p_le_f, p_lt_t, p_lt_f, p_eq_t, p_eq_f, bd1_s, bd2_s, bd3_s, nm_s, gd_t, gd_in, gd_nz, gd_bz0, gd_bz1, gd_cp, e, bd6_s]))
theorem sky_155 (k41 : Int32 → Int32 → Int32 → Int32 → Int32 → Int32 → Int32 → Int32 → Int32 → Int32 → (Nat → Int32) → (Nat → Int32) → (Nat → Int32) → Option (Int32 × Int32 × Int32 × Int32 × Int32 × Int32 × Int32 × Int32 × Int32 × Int32 × Int32 × Int32 × Int32 × Int32 × Int32 × Int32 × Int32 × (Nat → Int32) × (Nat → Int32) × (Nat → Int32) × (Nat → Int32) × (Nat → Int32))) {p : Nat} (hp : p < 1000000) (x1 nx tk val a1 a2 a3 a4 : Int32) (lea pur stars : Nat → Int32) : f_X9_sky_b155 text k41 x1 (nI len) nx tk (nI p) val (-nI 1) a1 a2 a3 a4 lea pur stars = k41 (x1 + nI 1) nx tk (nI p) val (nI p) a1 a2 a3 a4 lea pur stars := by
  have e := takes0 (len := len) (text := text) nx tk (nI p) val
  have e2 := sky_172D (len := len) (text := text) k41 hp x1 nx tk (nI p) val a1 a2 a3 a4 lea pur stars
  unfold f_X9_sky_b155 f_X9_sky_b156 f_X9_isWell
  (repeat (simp (disch := omega) only [li_0, li_1, li_2, li_3, li_4, li_5, li_6, li_7, li_8, li_9, li_10, li_11, li_12, li_13, li_14, li_15, li_16, li_17, li_18, li_19, li_20, li_21, li_22, li_23, li_24, li_25, li_26, li_27, li_28, li_29, li_30, li_31, li_32, li_34, li_35, li_40, li_41, li_45, li_48, li_49, li_50, li_57, li_58, li_59, li_60, li_61, li_64, li_65, li_97, li_99, li_100, li_115, li_116, li_121, li_122, li_200, li_255, li_256, li_300, li_999, li_1000, li_12345, li_65535, li_1103515245, if_true, if_false, nI_add, pk_mul, pk_sub, s_div, s_rem, s_cl, p_le_t, p_le_f, p_lt_t, p_lt_f, p_eq_t, p_eq_f, bd1_s, bd2_s, bd3_s, nm_s, gd_t, gd_in, gd_nz, gd_bz0, gd_bz1, gd_cp, e, bd6_s, e2]))
theorem sky_137N (k41 : Int32 → Int32 → Int32 → Int32 → Int32 → Int32 → Int32 → Int32 → Int32 → Int32 → (Nat → Int32) → (Nat → Int32) → (Nat → Int32) → Option (Int32 × Int32 × Int32 × Int32 × Int32 × Int32 × Int32 × Int32 × Int32 × Int32 × Int32 × Int32 × Int32 × Int32 × Int32 × Int32 × Int32 × (Nat → Int32) × (Nat → Int32) × (Nat → Int32) × (Nat → Int32) × (Nat → Int32))) {K : Nat} (hK : K < 4) (x1 t0 nx pl val a1 a2 a3 a4 : Int32) (lea pur stars : Nat → Int32) : f_X9_sky_b137 text k41 x1 t0 (nI len) nx (nI (mt K)) pl val (-nI 1) a1 a2 a3 a4 lea pur stars = f_X9_sky_b155 text k41 x1 (nI len) nx (nI (mt K)) pl val (-nI 1) a1 a2 a3 a4 lea pur stars := by
  have h1 := mt_le K
  have h2 : mt K ≠ 1 := fun e => by have := (mt_iff K).2.2.2.mp e; omega
  unfold f_X9_sky_b137
  (repeat (simp (disch := omega) only [li_0, li_1, li_2, li_3, li_4, li_5, li_6, li_7, li_8, li_9, li_10, li_11, li_12, li_13, li_14, li_15, li_16, li_17, li_18, li_19, li_20, li_21, li_22, li_23, li_24, li_25, li_26, li_27, li_28, li_29, li_30, li_31, li_32, li_34, li_35, li_40, li_41, li_45, li_48, li_49, li_50, li_57, li_58, li_59, li_60, li_61, li_64, li_65, li_97, li_99, li_100, li_115, li_116, li_121, li_122, li_200, li_255, li_256, li_300, li_999, li_1000, li_12345, li_65535, li_1103515245, if_true, if_false, nI_add, pk_mul, pk_sub, s_div, s_rem, s_cl, p_le_t, p_le_f, p_lt_t, p_lt_f, p_eq_t, p_eq_f, bd1_s, bd2_s, bd3_s, nm_s, gd_t, gd_in, gd_nz, gd_bz0, gd_bz1, gd_cp]))
theorem sky_dead {m p : Nat} (hp : p < 1000000) (th msq mst mte mof msn x1 nx tk pl val a1 a2 a3 a4 : Int32) (s isK lea pur stars : Nat → Int32) : f_X9_sky_b41 text th (nI len) msq mst mte mof msn s isK (m + 1) x1 nx tk pl val (nI p) a1 a2 a3 a4 lea pur stars = some (-nI 10 - nI p, th, nI len, nx, tk, pl, val, nI p, msq, mst, mte, a1, a2, a3, a4, mof, msn, lea, pur, stars, s, isK) := by
  rw [f_X9_sky_b41]
  unfold f_X9_sky_b196 f_X9_isWell
  (repeat (simp (disch := omega) only [li_0, li_1, li_2, li_3, li_4, li_5, li_6, li_7, li_8, li_9, li_10, li_11, li_12, li_13, li_14, li_15, li_16, li_17, li_18, li_19, li_20, li_21, li_22, li_23, li_24, li_25, li_26, li_27, li_28, li_29, li_30, li_31, li_32, li_34, li_35, li_40, li_41, li_45, li_48, li_49, li_50, li_57, li_58, li_59, li_60, li_61, li_64, li_65, li_97, li_99, li_100, li_115, li_116, li_121, li_122, li_200, li_255, li_256, li_300, li_999, li_1000, li_12345, li_65535, li_1103515245, if_true, if_false, nI_add, pk_mul, pk_sub, s_div, s_rem, s_cl, p_le_t, p_le_f, p_lt_t, p_lt_f, p_eq_t, p_eq_f, bd1_s, bd2_s, bd3_s, nm_s, gd_t, gd_in, gd_nz, gd_bz0, gd_bz1, gd_cp]))
theorem sky_may {K it ns nt cnt : Nat} (hK : 4 ≤ K) (hK2 : K ≤ 7) (h1 : it < 1000) (h2 : ns ≤ 8) (h3 : nt ≤ 4) (h4 : cnt ≤ 10) : ∃ may : Bool, f_X3_mayStand (nI ns) (nI nt) (nI 10) (nI cnt) (nI K) (nI it) = some (bI may) ∧ (∀ (m : Nat) (th msq mst mte mof msn nx pl n : Int32) (s isK lea pur stars : Nat → Int32), f_X9_sky_b41 text th (nI len) msq mst mte mof msn s isK (m + 1) (nI it) nx (nI 1) pl (nI (K - 4)) (-nI 1) n (nI ns) (nI nt) (nI cnt) lea pur stars = f_X9_sky_b137 text (f_X9_sky_b41 text th (nI len) msq mst mte mof msn s isK m) (nI it) (bI may) (nI len) nx (nI 1) pl (nI (K - 4)) (-nI 1) n (nI ns) (nI nt) (nI cnt) lea pur stars) ∧ (may = true → (K = 4 ∧ it = 0) ∨ (K = 5 ∧ ns < 8) ∨ (K = 6 ∧ nt < 4) ∨ (K = 7 ∧ cnt < 10)) := by
  rcases (show K = 4 ∨ K = 5 ∨ K = 6 ∨ K = 7 by omega) with rfl | rfl | rfl | rfl
  · have e0 : nI (4 - 4) = nI 0 := rfl
    by_cases hc : it = 0
    · refine ⟨true, ?_, ?_, fun _ => Or.inl ⟨rfl, hc⟩⟩
      · unfold f_X3_mayStand f_X6_isFull
        (repeat (simp (disch := omega) only [li_0, li_1, li_2, li_3, li_4, li_5, li_6, li_7, li_8, li_9, li_10, li_11, li_12, li_13, li_14, li_15, li_16, li_17, li_18, li_19, li_20, li_21, li_22, li_23, li_24, li_25, li_26, li_27, li_28, li_29, li_30, li_31, li_32, li_34, li_35, li_40, li_41, li_45, li_48, li_49, li_50, li_57, li_58, li_59, li_60, li_61, li_64, li_65, li_97, li_99, li_100, li_115, li_116, li_121, li_122, li_200, li_255, li_256, li_300, li_999, li_1000, li_12345, li_65535, li_1103515245, if_true, if_false, nI_add, pk_mul, pk_sub, s_div, s_rem, s_cl, p_le_t, p_le_f, p_lt_t, p_lt_f, p_eq_t, p_eq_f, bd1_s, bd2_s, bd3_s, nm_s, gd_t, gd_in, gd_nz, gd_bz0, gd_bz1, gd_cp, bI_t]))
      · intro m th msq mst mte mof msn nx pl n s isK lea pur stars
        rw [f_X9_sky_b41, e0]
        unfold f_X9_isWell
        (repeat (simp (disch := omega) only [li_0, li_1, li_2, li_3, li_4, li_5, li_6, li_7, li_8, li_9, li_10, li_11, li_12, li_13, li_14, li_15, li_16, li_17, li_18, li_19, li_20, li_21, li_22, li_23, li_24, li_25, li_26, li_27, li_28, li_29, li_30, li_31, li_32, li_34, li_35, li_40, li_41, li_45, li_48, li_49, li_50, li_57, li_58, li_59, li_60, li_61, li_64, li_65, li_97, li_99, li_100, li_115, li_116, li_121, li_122, li_200, li_255, li_256, li_300, li_999, li_1000, li_12345, li_65535, li_1103515245, if_true, if_false, nI_add, pk_mul, pk_sub, s_div, s_rem, s_cl, p_le_t, p_le_f, p_lt_t, p_lt_f, p_eq_t, p_eq_f, bd1_s, bd2_s, bd3_s, nm_s, gd_t, gd_in, gd_nz, gd_bz0, gd_bz1, gd_cp, m1_0, bI_t]))
    · refine ⟨false, ?_, ?_, fun h => by cases h⟩
      · unfold f_X3_mayStand f_X6_isFull
        (repeat (simp (disch := omega) only [li_0, li_1, li_2, li_3, li_4, li_5, li_6, li_7, li_8, li_9, li_10, li_11, li_12, li_13, li_14, li_15, li_16, li_17, li_18, li_19, li_20, li_21, li_22, li_23, li_24, li_25, li_26, li_27, li_28, li_29, li_30, li_31, li_32, li_34, li_35, li_40, li_41, li_45, li_48, li_49, li_50, li_57, li_58, li_59, li_60, li_61, li_64, li_65, li_97, li_99, li_100, li_115, li_116, li_121, li_122, li_200, li_255, li_256, li_300, li_999, li_1000, li_12345, li_65535, li_1103515245, if_true, if_false, nI_add, pk_mul, pk_sub, s_div, s_rem, s_cl, p_le_t, p_le_f, p_lt_t, p_lt_f, p_eq_t, p_eq_f, bd1_s, bd2_s, bd3_s, nm_s, gd_t, gd_in, gd_nz, gd_bz0, gd_bz1, gd_cp, bI_f]))
      · intro m th msq mst mte mof msn nx pl n s isK lea pur stars
        rw [f_X9_sky_b41, e0]
        unfold f_X9_isWell
        (repeat (simp (disch := omega) only [li_0, li_1, li_2, li_3, li_4, li_5, li_6, li_7, li_8, li_9, li_10, li_11, li_12, li_13, li_14, li_15, li_16, li_17, li_18, li_19, li_20, li_21, li_22, li_23, li_24, li_25, li_26, li_27, li_28, li_29, li_30, li_31, li_32, li_34, li_35, li_40, li_41, li_45, li_48, li_49, li_50, li_57, li_58, li_59, li_60, li_61, li_64, li_65, li_97, li_99, li_100, li_115, li_116, li_121, li_122, li_200, li_255, li_256, li_300, li_999, li_1000, li_12345, li_65535, li_1103515245, if_true, if_false, nI_add, pk_mul, pk_sub, s_div, s_rem, s_cl, p_le_t, p_le_f, p_lt_t, p_lt_f, p_eq_t, p_eq_f, bd1_s, bd2_s, bd3_s, nm_s, gd_t, gd_in, gd_nz, gd_bz0, gd_bz1, gd_cp, m1_0, bI_f]))
  · have e0 : nI (5 - 4) = nI 1 := rfl
    by_cases hc : ns < 8
    · refine ⟨true, ?_, ?_, fun _ => Or.inr (Or.inl ⟨rfl, hc⟩)⟩
      · unfold f_X3_mayStand f_X6_isFull
        (repeat (simp (disch := omega) only [li_0, li_1, li_2, li_3, li_4, li_5, li_6, li_7, li_8, li_9, li_10, li_11, li_12, li_13, li_14, li_15, li_16, li_17, li_18, li_19, li_20, li_21, li_22, li_23, li_24, li_25, li_26, li_27, li_28, li_29, li_30, li_31, li_32, li_34, li_35, li_40, li_41, li_45, li_48, li_49, li_50, li_57, li_58, li_59, li_60, li_61, li_64, li_65, li_97, li_99, li_100, li_115, li_116, li_121, li_122, li_200, li_255, li_256, li_300, li_999, li_1000, li_12345, li_65535, li_1103515245, if_true, if_false, nI_add, pk_mul, pk_sub, s_div, s_rem, s_cl, p_le_t, p_le_f, p_lt_t, p_lt_f, p_eq_t, p_eq_f, bd1_s, bd2_s, bd3_s, nm_s, gd_t, gd_in, gd_nz, gd_bz0, gd_bz1, gd_cp, bI_t]))
      · intro m th msq mst mte mof msn nx pl n s isK lea pur stars
        rw [f_X9_sky_b41, e0]
        unfold f_X9_isWell
        (repeat (simp (disch := omega) only [li_0, li_1, li_2, li_3, li_4, li_5, li_6, li_7, li_8, li_9, li_10, li_11, li_12, li_13, li_14, li_15, li_16, li_17, li_18, li_19, li_20, li_21, li_22, li_23, li_24, li_25, li_26, li_27, li_28, li_29, li_30, li_31, li_32, li_34, li_35, li_40, li_41, li_45, li_48, li_49, li_50, li_57, li_58, li_59, li_60, li_61, li_64, li_65, li_97, li_99, li_100, li_115, li_116, li_121, li_122, li_200, li_255, li_256, li_300, li_999, li_1000, li_12345, li_65535, li_1103515245, if_true, if_false, nI_add, pk_mul, pk_sub, s_div, s_rem, s_cl, p_le_t, p_le_f, p_lt_t, p_lt_f, p_eq_t, p_eq_f, bd1_s, bd2_s, bd3_s, nm_s, gd_t, gd_in, gd_nz, gd_bz0, gd_bz1, gd_cp, m1_0, bI_t]))
    · refine ⟨false, ?_, ?_, fun h => by cases h⟩
      · unfold f_X3_mayStand f_X6_isFull
        (repeat (simp (disch := omega) only [li_0, li_1, li_2, li_3, li_4, li_5, li_6, li_7, li_8, li_9, li_10, li_11, li_12, li_13, li_14, li_15, li_16, li_17, li_18, li_19, li_20, li_21, li_22, li_23, li_24, li_25, li_26, li_27, li_28, li_29, li_30, li_31, li_32, li_34, li_35, li_40, li_41, li_45, li_48, li_49, li_50, li_57, li_58, li_59, li_60, li_61, li_64, li_65, li_97, li_99, li_100, li_115, li_116, li_121, li_122, li_200, li_255, li_256, li_300, li_999, li_1000, li_12345, li_65535, li_1103515245, if_true, if_false, nI_add, pk_mul, pk_sub, s_div, s_rem, s_cl, p_le_t, p_le_f, p_lt_t, p_lt_f, p_eq_t, p_eq_f, bd1_s, bd2_s, bd3_s, nm_s, gd_t, gd_in, gd_nz, gd_bz0, gd_bz1, gd_cp, bI_f]))
      · intro m th msq mst mte mof msn nx pl n s isK lea pur stars
        rw [f_X9_sky_b41, e0]
        unfold f_X9_isWell
        (repeat (simp (disch := omega) only [li_0, li_1, li_2, li_3, li_4, li_5, li_6, li_7, li_8, li_9, li_10, li_11, li_12, li_13, li_14, li_15, li_16, li_17, li_18, li_19, li_20, li_21, li_22, li_23, li_24, li_25, li_26, li_27, li_28, li_29, li_30, li_31, li_32, li_34, li_35, li_40, li_41, li_45, li_48, li_49, li_50, li_57, li_58, li_59, li_60, li_61, li_64, li_65, li_97, li_99, li_100, li_115, li_116, li_121, li_122, li_200, li_255, li_256, li_300, li_999, li_1000, li_12345, li_65535, li_1103515245, if_true, if_false, nI_add, pk_mul, pk_sub, s_div, s_rem, s_cl, p_le_t, p_le_f, p_lt_t, p_lt_f, p_eq_t, p_eq_f, bd1_s, bd2_s, bd3_s, nm_s, gd_t, gd_in, gd_nz, gd_bz0, gd_bz1, gd_cp, m1_0, bI_f]))
  · have e0 : nI (6 - 4) = nI 2 := rfl
    by_cases hc : nt < 4
    · refine ⟨true, ?_, ?_, fun _ => Or.inr (Or.inr (Or.inl ⟨rfl, hc⟩))⟩
      · unfold f_X3_mayStand f_X6_isFull
        (repeat (simp (disch := omega) only [li_0, li_1, li_2, li_3, li_4, li_5, li_6, li_7, li_8, li_9, li_10, li_11, li_12, li_13, li_14, li_15, li_16, li_17, li_18, li_19, li_20, li_21, li_22, li_23, li_24, li_25, li_26, li_27, li_28, li_29, li_30, li_31, li_32, li_34, li_35, li_40, li_41, li_45, li_48, li_49, li_50, li_57, li_58, li_59, li_60, li_61, li_64, li_65, li_97, li_99, li_100, li_115, li_116, li_121, li_122, li_200, li_255, li_256, li_300, li_999, li_1000, li_12345, li_65535, li_1103515245, if_true, if_false, nI_add, pk_mul, pk_sub, s_div, s_rem, s_cl, p_le_t, p_le_f, p_lt_t, p_lt_f, p_eq_t, p_eq_f, bd1_s, bd2_s, bd3_s, nm_s, gd_t, gd_in, gd_nz, gd_bz0, gd_bz1, gd_cp, bI_t]))
      · intro m th msq mst mte mof msn nx pl n s isK lea pur stars
        rw [f_X9_sky_b41, e0]
        unfold f_X9_isWell
        (repeat (simp (disch := omega) only [li_0, li_1, li_2, li_3, li_4, li_5, li_6, li_7, li_8, li_9, li_10, li_11, li_12, li_13, li_14, li_15, li_16, li_17, li_18, li_19, li_20, li_21, li_22, li_23, li_24, li_25, li_26, li_27, li_28, li_29, li_30, li_31, li_32, li_34, li_35, li_40, li_41, li_45, li_48, li_49, li_50, li_57, li_58, li_59, li_60, li_61, li_64, li_65, li_97, li_99, li_100, li_115, li_116, li_121, li_122, li_200, li_255, li_256, li_300, li_999, li_1000, li_12345, li_65535, li_1103515245, if_true, if_false, nI_add, pk_mul, pk_sub, s_div, s_rem, s_cl, p_le_t, p_le_f, p_lt_t, p_lt_f, p_eq_t, p_eq_f, bd1_s, bd2_s, bd3_s, nm_s, gd_t, gd_in, gd_nz, gd_bz0, gd_bz1, gd_cp, m1_0, bI_t]))
    · refine ⟨false, ?_, ?_, fun h => by cases h⟩
      · unfold f_X3_mayStand f_X6_isFull
        (repeat (simp (disch := omega) only [li_0, li_1, li_2, li_3, li_4, li_5, li_6, li_7, li_8, li_9, li_10, li_11, li_12, li_13, li_14, li_15, li_16, li_17, li_18, li_19, li_20, li_21, li_22, li_23, li_24, li_25, li_26, li_27, li_28, li_29, li_30, li_31, li_32, li_34, li_35, li_40, li_41, li_45, li_48, li_49, li_50, li_57, li_58, li_59, li_60, li_61, li_64, li_65, li_97, li_99, li_100, li_115, li_116, li_121, li_122, li_200, li_255, li_256, li_300, li_999, li_1000, li_12345, li_65535, li_1103515245, if_true, if_false, nI_add, pk_mul, pk_sub, s_div, s_rem, s_cl, p_le_t, p_le_f, p_lt_t, p_lt_f, p_eq_t, p_eq_f, bd1_s, bd2_s, bd3_s, nm_s, gd_t, gd_in, gd_nz, gd_bz0, gd_bz1, gd_cp, bI_f]))
      · intro m th msq mst mte mof msn nx pl n s isK lea pur stars
        rw [f_X9_sky_b41, e0]
        unfold f_X9_isWell
        (repeat (simp (disch := omega) only [li_0, li_1, li_2, li_3, li_4, li_5, li_6, li_7, li_8, li_9, li_10, li_11, li_12, li_13, li_14, li_15, li_16, li_17, li_18, li_19, li_20, li_21, li_22, li_23, li_24, li_25, li_26, li_27, li_28, li_29, li_30, li_31, li_32, li_34, li_35, li_40, li_41, li_45, li_48, li_49, li_50, li_57, li_58, li_59, li_60, li_61, li_64, li_65, li_97, li_99, li_100, li_115, li_116, li_121, li_122, li_200, li_255, li_256, li_300, li_999, li_1000, li_12345, li_65535, li_1103515245, if_true, if_false, nI_add, pk_mul, pk_sub, s_div, s_rem, s_cl, p_le_t, p_le_f, p_lt_t, p_lt_f, p_eq_t, p_eq_f, bd1_s, bd2_s, bd3_s, nm_s, gd_t, gd_in, gd_nz, gd_bz0, gd_bz1, gd_cp, m1_0, bI_f]))
  · have e0 : nI (7 - 4) = nI 3 := rfl
    by_cases hc : cnt < 10
    · refine ⟨true, ?_, ?_, fun _ => Or.inr (Or.inr (Or.inr ⟨rfl, hc⟩))⟩
      · unfold f_X3_mayStand f_X6_isFull
        (repeat (simp (disch := omega) only [li_0, li_1, li_2, li_3, li_4, li_5, li_6, li_7, li_8, li_9, li_10, li_11, li_12, li_13, li_14, li_15, li_16, li_17, li_18, li_19, li_20, li_21, li_22, li_23, li_24, li_25, li_26, li_27, li_28, li_29, li_30, li_31, li_32, li_34, li_35, li_40, li_41, li_45, li_48, li_49, li_50, li_57, li_58, li_59, li_60, li_61, li_64, li_65, li_97, li_99, li_100, li_115, li_116, li_121, li_122, li_200, li_255, li_256, li_300, li_999, li_1000, li_12345, li_65535, li_1103515245, if_true, if_false, nI_add, pk_mul, pk_sub, s_div, s_rem, s_cl, p_le_t, p_le_f, p_lt_t, p_lt_f, p_eq_t, p_eq_f, bd1_s, bd2_s, bd3_s, nm_s, gd_t, gd_in, gd_nz, gd_bz0, gd_bz1, gd_cp, bI_t]))
      · intro m th msq mst mte mof msn nx pl n s isK lea pur stars
        rw [f_X9_sky_b41, e0]
        unfold f_X9_isWell
        (repeat (simp (disch := omega) only [li_0, li_1, li_2, li_3, li_4, li_5, li_6, li_7, li_8, li_9, li_10, li_11, li_12, li_13, li_14, li_15, li_16, li_17, li_18, li_19, li_20, li_21, li_22, li_23, li_24, li_25, li_26, li_27, li_28, li_29, li_30, li_31, li_32, li_34, li_35, li_40, li_41, li_45, li_48, li_49, li_50, li_57, li_58, li_59, li_60, li_61, li_64, li_65, li_97, li_99, li_100, li_115, li_116, li_121, li_122, li_200, li_255, li_256, li_300, li_999, li_1000, li_12345, li_65535, li_1103515245, if_true, if_false, nI_add, pk_mul, pk_sub, s_div, s_rem, s_cl, p_le_t, p_le_f, p_lt_t, p_lt_f, p_eq_t, p_eq_f, bd1_s, bd2_s, bd3_s, nm_s, gd_t, gd_in, gd_nz, gd_bz0, gd_bz1, gd_cp, m1_0, bI_t]))
    · refine ⟨false, ?_, ?_, fun h => by cases h⟩
      · unfold f_X3_mayStand f_X6_isFull
        (repeat (simp (disch := omega) only [li_0, li_1, li_2, li_3, li_4, li_5, li_6, li_7, li_8, li_9, li_10, li_11, li_12, li_13, li_14, li_15, li_16, li_17, li_18, li_19, li_20, li_21, li_22, li_23, li_24, li_25, li_26, li_27, li_28, li_29, li_30, li_31, li_32, li_34, li_35, li_40, li_41, li_45, li_48, li_49, li_50, li_57, li_58, li_59, li_60, li_61, li_64, li_65, li_97, li_99, li_100, li_115, li_116, li_121, li_122, li_200, li_255, li_256, li_300, li_999, li_1000, li_12345, li_65535, li_1103515245, if_true, if_false, nI_add, pk_mul, pk_sub, s_div, s_rem, s_cl, p_le_t, p_le_f, p_lt_t, p_lt_f, p_eq_t, p_eq_f, bd1_s, bd2_s, bd3_s, nm_s, gd_t, gd_in, gd_nz, gd_bz0, gd_bz1, gd_cp, bI_f]))
      · intro m th msq mst mte mof msn nx pl n s isK lea pur stars
        rw [f_X9_sky_b41, e0]
        unfold f_X9_isWell
        (repeat (simp (disch := omega) only [li_0, li_1, li_2, li_3, li_4, li_5, li_6, li_7, li_8, li_9, li_10, li_11, li_12, li_13, li_14, li_15, li_16, li_17, li_18, li_19, li_20, li_21, li_22, li_23, li_24, li_25, li_26, li_27, li_28, li_29, li_30, li_31, li_32, li_34, li_35, li_40, li_41, li_45, li_48, li_49, li_50, li_57, li_58, li_59, li_60, li_61, li_64, li_65, li_97, li_99, li_100, li_115, li_116, li_121, li_122, li_200, li_255, li_256, li_300, li_999, li_1000, li_12345, li_65535, li_1103515245, if_true, if_false, nI_add, pk_mul, pk_sub, s_div, s_rem, s_cl, p_le_t, p_le_f, p_lt_t, p_lt_f, p_eq_t, p_eq_f, bd1_s, bd2_s, bd3_s, nm_s, gd_t, gd_in, gd_nz, gd_bz0, gd_bz1, gd_cp, m1_0, bI_f]))
theorem sky_loop (hB : gB len b bytes text) (th msq mst mte mof msn : Int32) (s isK : Nat → Int32) : ∀ (R q it nn mm n ns nt cnt : Nat) (sa sp sb ld : Nat → Nat) (numbers starts paces brights purses parts lea pur stars : Nat → Int32) (nx tk pl val tk0 pl0 nb0 : Int32), q ≤ len → len - q < R → R + 1 < nn → R + 1 < mm → 3 * it ≤ q → (it = 0 → ns = 0 ∧ cnt = 0) → DR n ns nt cnt sa sp sb ld starts paces brights purses parts lea pur stars → MS len bytes text q nx tk pl val →
    (∃ (it' n' ns' nt' cnt' : Nat) (sa' sp' sb' ld' : Nat → Nat) (t3 p3 b3 x3 : Int32) (numbers' starts' paces' brights' purses' parts' lea' pur' stars' : Nat → Int32) (n1 t1 p1 v1 : Int32), it' ≤ 300 ∧ DR n' ns' nt' cnt' sa' sp' sb' ld' starts' paces' brights' purses' parts' lea' pur' stars' ∧ (∀ j, j < 24 → stars' j = stars j) ∧
      f_X3_read_b10 (nI len) (nI 10) bytes nn (nI it) tk0 pl0 nb0 (nI q) (nI n) (nI ns) (nI nt) (nI cnt) numbers starts paces brights purses parts = some (nI it', t3, p3, b3, x3, nI n', nI ns', nI nt', nI cnt', numbers', starts', paces', brights', purses', parts') ∧
      f_X9_sky_b41 text th (nI len) msq mst mte mof msn s isK mm (nI it) nx tk pl val (-nI 1) (nI n) (nI ns) (nI nt) (nI cnt) lea pur stars = f_X9_sky_b196 (nI it') th (nI len) n1 t1 p1 v1 (-nI 1) msq mst mte (nI n') (nI ns') (nI nt') (nI cnt') mof msn lea' pur' stars' s isK)
    ∨ (∃ (p : Nat) (t3 p3 b3 x3 c1 c2 c3 c4 : Int32) (numbers' starts' paces' brights' purses' parts' lea' pur' stars' : Nat → Int32) (n1 t1 p1 v1 f1 a1 a2 a3 a4 : Int32), p ≤ len ∧ (∀ j, j < 24 → stars' j = stars j) ∧
      f_X3_read_b10 (nI len) (nI 10) bytes nn (nI it) tk0 pl0 nb0 (nI q) (nI n) (nI ns) (nI nt) (nI cnt) numbers starts paces brights purses parts = some (-nI 10 - nI p, t3, p3, b3, x3, c1, c2, c3, c4, numbers', starts', paces', brights', purses', parts') ∧
      f_X9_sky_b41 text th (nI len) msq mst mte mof msn s isK mm (nI it) nx tk pl val (-nI 1) (nI n) (nI ns) (nI nt) (nI cnt) lea pur stars = some (-nI 10 - nI p, th, nI len, n1, t1, p1, v1, f1, msq, mst, mte, a1, a2, a3, a4, mof, msn, lea', pur', stars', s, isK)) := by
  have h300 := hB.1
  intro R
  induction R with
  | zero =>
    intro q it nn mm n ns nt cnt sa sp sb ld numbers starts paces brights purses parts lea pur stars nx tk pl val tk0 pl0 nb0 hq hR
    omega
  | succ R ih =>
    intro q it nn mm n ns nt cnt sa sp sb ld numbers starts paces brights purses parts lea pur stars nx tk pl val tk0 pl0 nb0 hq hR hnn hmm h3 hit hD hM
    obtain ⟨m, rfl⟩ : ∃ m, nn = m + 1 := ⟨nn - 1, by omega⟩
    obtain ⟨k, rfl⟩ : ∃ m, mm = m + 1 + 1 := ⟨mm - 2, by omega⟩
    obtain ⟨d1, d2, d3, d4, d5, d6, d7, d8, d9⟩ := id hD
    obtain ⟨K, p, x, num, hT, rfl, rfl, rfl, hv2, hv4⟩ := hM
    obtain ⟨t1, t2, t3, t4, t5, t6, t7, t8⟩ := id hT
    obtain ⟨num', u1, u2⟩ := t7 tk0 pl0 nb0
    by_cases hK0 : K = 0
    · subst hK0
      refine Or.inl ⟨it, n, ns, nt, cnt, sa, sp, sb, ld, nI 0, nI p, num', nI x, numbers, starts, paces, brights, purses, parts, lea, pur, stars, nI x, nI 0, nI p, val, by omega, hD, fun _ _ => rfl, ?_, ?_⟩
      · rw [f_X3_read_b10]
        (repeat (simp (disch := omega) only [li_0, li_1, li_2, li_3, li_4, li_5, li_6, li_7, li_8, li_9, li_10, li_11, li_12, li_13, li_14, li_15, li_16, li_17, li_18, li_19, li_20, li_21, li_22, li_23, li_24, li_25, li_26, li_27, li_28, li_29, li_30, li_31, li_32, li_34, li_35, li_40, li_41, li_45, li_48, li_49, li_50, li_57, li_58, li_59, li_60, li_61, li_64, li_65, li_97, li_99, li_100, li_115, li_116, li_121, li_122, li_200, li_255, li_256, li_300, li_999, li_1000, li_12345, li_65535, li_1103515245, if_true, if_false, nI_add, pk_mul, pk_sub, s_div, s_rem, s_cl, p_le_t, p_le_f, p_lt_t, p_lt_f, p_eq_t, p_eq_f, bd1_s, bd2_s, bd3_s, nm_s, gd_t, gd_in, gd_nz, gd_bz0, gd_bz1, gd_cp, u1, bd4t]))
      · rw [f_X9_sky_b41]
        unfold f_X9_isWell
        (repeat (simp (disch := omega) only [li_0, li_1, li_2, li_3, li_4, li_5, li_6, li_7, li_8, li_9, li_10, li_11, li_12, li_13, li_14, li_15, li_16, li_17, li_18, li_19, li_20, li_21, li_22, li_23, li_24, li_25, li_26, li_27, li_28, li_29, li_30, li_31, li_32, li_34, li_35, li_40, li_41, li_45, li_48, li_49, li_50, li_57, li_58, li_59, li_60, li_61, li_64, li_65, li_97, li_99, li_100, li_115, li_116, li_121, li_122, li_200, li_255, li_256, li_300, li_999, li_1000, li_12345, li_65535, li_1103515245, if_true, if_false, nI_add, pk_mul, pk_sub, s_div, s_rem, s_cl, p_le_t, p_le_f, p_lt_t, p_lt_f, p_eq_t, p_eq_f, bd1_s, bd2_s, bd3_s, nm_s, gd_t, gd_in, gd_nz, gd_bz0, gd_bz1, gd_cp, m1_0, mt_0]))
    · have hqx := t5 hK0
      by_cases hK3 : K < 4
      · have h1 := mt_le K
        have hm0 : mt K ≠ 0 := fun e => hK0 ((mt_iff K).1.mp e)
        have e1 := fun t0 => sky_137N (len := len) (text := text) (f_X9_sky_b41 text th (nI len) msq mst mte mof msn s isK (k + 1)) hK3 (nI it) t0 (nI x) (nI p) val (nI n) (nI ns) (nI nt) (nI cnt) lea pur stars
        have e2 := sky_155 (len := len) (text := text) (f_X9_sky_b41 text th (nI len) msq mst mte mof msn s isK (k + 1)) (show p < 1000000 by omega) (nI it) (nI x) (nI (mt K)) val (nI n) (nI ns) (nI nt) (nI cnt) lea pur stars
        have e3 := sky_dead (len := len) (text := text) (m := k) (p := p) (by omega) th msq mst mte mof msn (nI it + nI 1) (nI x) (nI (mt K)) (nI p) val (nI n) (nI ns) (nI nt) (nI cnt) s isK lea pur stars
        refine Or.inr ⟨p, nI K, nI p, num', nI x, nI n, nI ns, nI nt, nI cnt, numbers, starts, paces, brights, purses, parts, lea, pur, stars, nI x, nI (mt K), nI p, val, nI p, nI n, nI ns, nI nt, nI cnt, by omega, fun _ _ => rfl, ?_, ?_⟩
        · rw [f_X3_read_b10]
          unfold f_X3_mayStand f_X3_read_b89
          (repeat (simp (disch := omega) only [li_0, li_1, li_2, li_3, li_4, li_5, li_6, li_7, li_8, li_9, li_10, li_11, li_12, li_13, li_14, li_15, li_16, li_17, li_18, li_19, li_20, li_21, li_22, li_23, li_24, li_25, li_26, li_27, li_28, li_29, li_30, li_31, li_32, li_34, li_35, li_40, li_41, li_45, li_48, li_49, li_50, li_57, li_58, li_59, li_60, li_61, li_64, li_65, li_97, li_99, li_100, li_115, li_116, li_121, li_122, li_200, li_255, li_256, li_300, li_999, li_1000, li_12345, li_65535, li_1103515245, if_true, if_false, nI_add, pk_mul, pk_sub, s_div, s_rem, s_cl, p_le_t, p_le_f, p_lt_t, p_lt_f, p_eq_t, p_eq_f, bd1_s, bd2_s, bd3_s, nm_s, gd_t, gd_in, gd_nz, gd_bz0, gd_bz1, gd_cp, u1, bd4t]))
        · rw [f_X9_sky_b41, ← e3, ← e2]
          unfold f_X9_isWell
          simp (disch := omega) only [li_0, li_1, li_2, li_3, li_4, li_5, li_6, li_7, li_8, li_9, li_10, li_11, li_12, li_13, li_14, li_15, li_16, li_17, li_18, li_19, li_20, li_21, li_22, li_23, li_24, li_25, li_26, li_27, li_28, li_29, li_30, li_31, li_32, li_34, li_35, li_40, li_41, li_45, li_48, li_49, li_50, li_57, li_58, li_59, li_60, li_61, li_64, li_65, li_97, li_99, li_100, li_115, li_116, li_121, li_122, li_200, li_255, li_256, li_300, li_999, li_1000, li_12345, li_65535, li_1103515245, m1_0, if_false, bd1_s, p_eq_f, e1, ite_self]
      · have hmt := mt_w (show 4 ≤ K by omega)
        have hv := hv4 (by omega)
        subst hv
        rw [hmt]
        obtain ⟨may, y1, y2, y3⟩ := sky_may (len := len) (text := text) (K := K) (it := it) (ns := ns) (nt := nt) (cnt := cnt) (by omega) t1 (by omega) d3 d4 d5
        cases may with
        | false =>
          rw [bI_f] at y1 y2
          have e2 := sky_155 (len := len) (text := text) (f_X9_sky_b41 text th (nI len) msq mst mte mof msn s isK (k + 1)) (show p < 1000000 by omega) (nI it) (nI x) (nI 1) (nI (K - 4)) (nI n) (nI ns) (nI nt) (nI cnt) lea pur stars
          have e3 := sky_dead (len := len) (text := text) (m := k) (p := p) (by omega) th msq mst mte mof msn (nI it + nI 1) (nI x) (nI 1) (nI p) (nI (K - 4)) (nI n) (nI ns) (nI nt) (nI cnt) s isK lea pur stars
          refine Or.inr ⟨p, nI K, nI p, num', nI x, nI n, nI ns, nI nt, nI cnt, numbers, starts, paces, brights, purses, parts, lea, pur, stars, nI x, nI 1, nI p, nI (K - 4), nI p, nI n, nI ns, nI nt, nI cnt, by omega, fun _ _ => rfl, ?_, ?_⟩
          · rw [f_X3_read_b10]
            unfold f_X3_read_b89
            (repeat (simp (disch := omega) only [li_0, li_1, li_2, li_3, li_4, li_5, li_6, li_7, li_8, li_9, li_10, li_11, li_12, li_13, li_14, li_15, li_16, li_17, li_18, li_19, li_20, li_21, li_22, li_23, li_24, li_25, li_26, li_27, li_28, li_29, li_30, li_31, li_32, li_34, li_35, li_40, li_41, li_45, li_48, li_49, li_50, li_57, li_58, li_59, li_60, li_61, li_64, li_65, li_97, li_99, li_100, li_115, li_116, li_121, li_122, li_200, li_255, li_256, li_300, li_999, li_1000, li_12345, li_65535, li_1103515245, if_true, if_false, nI_add, pk_mul, pk_sub, s_div, s_rem, s_cl, p_le_t, p_le_f, p_lt_t, p_lt_f, p_eq_t, p_eq_f, bd1_s, bd2_s, bd3_s, nm_s, gd_t, gd_in, gd_nz, gd_bz0, gd_bz1, gd_cp, u1, bd4t, y1]))
          · rw [y2, ← e3, ← e2]
            unfold f_X9_sky_b137
            (repeat (simp (disch := omega) only [li_0, li_1, li_2, li_3, li_4, li_5, li_6, li_7, li_8, li_9, li_10, li_11, li_12, li_13, li_14, li_15, li_16, li_17, li_18, li_19, li_20, li_21, li_22, li_23, li_24, li_25, li_26, li_27, li_28, li_29, li_30, li_31, li_32, li_34, li_35, li_40, li_41, li_45, li_48, li_49, li_50, li_57, li_58, li_59, li_60, li_61, li_64, li_65, li_97, li_99, li_100, li_115, li_116, li_121, li_122, li_200, li_255, li_256, li_300, li_999, li_1000, li_12345, li_65535, li_1103515245, if_true, if_false, nI_add, pk_mul, pk_sub, s_div, s_rem, s_cl, p_le_t, p_le_f, p_lt_t, p_lt_f, p_eq_t, p_eq_f, bd1_s, bd2_s, bd3_s, nm_s, gd_t, gd_in, gd_nz, gd_bz0, gd_bz1, gd_cp]))
        | true =>
          rw [bI_t] at y1 y2
          obtain ⟨n1, k1, p1, v1, e4, hM1⟩ := takes1 hB t4 (nI 1) (nI p) (nI (K - 4))
          have hI : IR len bytes text x K n ns nt cnt starts paces brights purses parts numbers lea pur stars n1 k1 p1 v1 := by
            rcases y3 rfl with ⟨rfl, hc⟩ | ⟨rfl, hc⟩ | ⟨rfl, hc⟩ | ⟨rfl, hc⟩
            · exact it_sky hB hD (hit hc).1 (hit hc).2 hM1 numbers
            · exact it_star hB hD hc hM1 numbers
            · exact it_tenant hB hD hc hM1 numbers
            · exact it_lease hB hD hc hM1 numbers
          rcases hI with ⟨xx, n', ns', nt', cnt', sa', sp', sb', ld', c3, c4, c5, numbers', starts', paces', brights', purses', parts', lea', pur', stars', n2, k2, p2, v2, i1, i2, i3, i4, i5, i6, i7, i8⟩ | ⟨pp, i1, i2, n2, k2, p2, v2, a1, a2, a3, a4, lea', pur', stars', i3, i4⟩
          · obtain ⟨K2, q2, x2, num2, hT2, rfl, rfl, rfl, w2, w4⟩ := i4
            obtain ⟨r1, r2, r3, r4, r5, r6, r7, r8⟩ := id hT2
            obtain ⟨num3, u3, u4⟩ := r7 c3 c4 c5
            have i6' := i6 (nI K) (nI p) num'
            by_cases hK2 : K2 = 3
            · subst hK2
              obtain ⟨n3, k3, p3, v3, e6, hM3⟩ := takes1 hB r4 (nI 3) (nI q2) v2
              have hx2 := r5 (by decide)
              have ihh := ih x2 (it + 1) m (k + 1) n' ns' nt' cnt' sa' sp' sb' ld' numbers' starts' paces' brights' purses' parts' lea' pur' stars' n3 k3 p3 v3 (nI 3) (nI q2) num3 r4 (by omega) (by omega) (by omega) (by omega) (fun e => by omega) i3 hM3
              have hcl : f_X3_read_b10 (nI len) (nI 10) bytes (m + 1) (nI it) tk0 pl0 nb0 (nI q) (nI n) (nI ns) (nI nt) (nI cnt) numbers starts paces brights purses parts = f_X3_read_b10 (nI len) (nI 10) bytes m (nI (it + 1)) (nI 3) (nI q2) num3 (nI x2) (nI n') (nI ns') (nI nt') (nI cnt') numbers' starts' paces' brights' purses' parts' := by
                rw [f_X3_read_b10]
                (repeat (simp (disch := omega) only [li_0, li_1, li_2, li_3, li_4, li_5, li_6, li_7, li_8, li_9, li_10, li_11, li_12, li_13, li_14, li_15, li_16, li_17, li_18, li_19, li_20, li_21, li_22, li_23, li_24, li_25, li_26, li_27, li_28, li_29, li_30, li_31, li_32, li_34, li_35, li_40, li_41, li_45, li_48, li_49, li_50, li_57, li_58, li_59, li_60, li_61, li_64, li_65, li_97, li_99, li_100, li_115, li_116, li_121, li_122, li_200, li_255, li_256, li_300, li_999, li_1000, li_12345, li_65535, li_1103515245, if_true, if_false, nI_add, pk_mul, pk_sub, s_div, s_rem, s_cl, p_le_t, p_le_f, p_lt_t, p_lt_f, p_eq_t, p_eq_f, bd1_s, bd2_s, bd3_s, nm_s, gd_t, gd_in, gd_nz, gd_bz0, gd_bz1, gd_cp, u1, bd4t, y1, i6', bd6_s, i7, bd9_s, u3]))
              have hmo : f_X9_sky_b41 text th (nI len) msq mst mte mof msn s isK (k + 1 + 1) (nI it) (nI x) (nI 1) (nI p) (nI (K - 4)) (-nI 1) (nI n) (nI ns) (nI nt) (nI cnt) lea pur stars = f_X9_sky_b41 text th (nI len) msq mst mte mof msn s isK (k + 1) (nI (it + 1)) n3 k3 p3 v3 (-nI 1) (nI n') (nI ns') (nI nt') (nI cnt') lea' pur' stars' := by
                rw [y2]
                unfold f_X9_sky_b137 f_X9_sky_b156 f_X9_sky_b172 f_X9_sky_b186 f_X9_isWell
                (repeat (simp (disch := omega) only [li_0, li_1, li_2, li_3, li_4, li_5, li_6, li_7, li_8, li_9, li_10, li_11, li_12, li_13, li_14, li_15, li_16, li_17, li_18, li_19, li_20, li_21, li_22, li_23, li_24, li_25, li_26, li_27, li_28, li_29, li_30, li_31, li_32, li_34, li_35, li_40, li_41, li_45, li_48, li_49, li_50, li_57, li_58, li_59, li_60, li_61, li_64, li_65, li_97, li_99, li_100, li_115, li_116, li_121, li_122, li_200, li_255, li_256, li_300, li_999, li_1000, li_12345, li_65535, li_1103515245, if_true, if_false, nI_add, pk_mul, pk_sub, s_div, s_rem, s_cl, p_le_t, p_le_f, p_lt_t, p_lt_f, p_eq_t, p_eq_f, bd1_s, bd2_s, bd3_s, nm_s, gd_t, gd_in, gd_nz, gd_bz0, gd_bz1, gd_cp, e4, bd6_s, m1_0, i8, bd12_s, mt_3, e6]))
              rw [hcl, hmo]
              rcases ihh with ⟨it', n5, ns5, nt5, cnt5, sa5, sp5, sb5, ld5, z3, z4, z5, z6, nu5, st5, pa5, br5, pu5, pr5, le5, pe5, sr5, n6, k6, p6, v6, j1, j2, j3, j4, j5⟩ | ⟨pf, z3, z4, z5, z6, g1, g2, g3, g4, nu5, st5, pa5, br5, pu5, pr5, le5, pe5, sr5, n6, k6, p6, v6, f6, a1, a2, a3, a4, j1, j2, j3, j4⟩
              · exact Or.inl ⟨it', n5, ns5, nt5, cnt5, sa5, sp5, sb5, ld5, z3, z4, z5, z6, nu5, st5, pa5, br5, pu5, pr5, le5, pe5, sr5, n6, k6, p6, v6, j1, j2, fun j hj => (j3 j hj).trans (i5 j hj), j4, j5⟩
              · exact Or.inr ⟨pf, z3, z4, z5, z6, g1, g2, g3, g4, nu5, st5, pa5, br5, pu5, pr5, le5, pe5, sr5, n6, k6, p6, v6, f6, a1, a2, a3, a4, j1, fun j hj => (j2 j hj).trans (i5 j hj), j3, j4⟩
            · have h1 := mt_le K2
              have hm3 : mt K2 ≠ 3 := fun e => hK2 ((mt_iff K2).2.2.1.mp e)
              have e6 := takes0 (len := len) (text := text) (nI x2) (nI (mt K2)) (nI q2) v2
              have e7 := sky_dead (len := len) (text := text) (m := k) (p := q2) (by omega) th msq mst mte mof msn (nI it + nI 1) (nI x2) (nI (mt K2)) (nI q2) v2 (nI n') (nI ns') (nI nt') (nI cnt') s isK lea' pur' stars'
              refine Or.inr ⟨q2, nI K2, nI q2, num3, nI x2, nI n', nI ns', nI nt', nI cnt', numbers', starts', paces', brights', purses', parts', lea', pur', stars', nI x2, nI (mt K2), nI q2, v2, nI q2, nI n', nI ns', nI nt', nI cnt', by omega, i5, ?_, ?_⟩
              · rw [f_X3_read_b10]
                unfold f_X3_read_b89
                (repeat (simp (disch := omega) only [li_0, li_1, li_2, li_3, li_4, li_5, li_6, li_7, li_8, li_9, li_10, li_11, li_12, li_13, li_14, li_15, li_16, li_17, li_18, li_19, li_20, li_21, li_22, li_23, li_24, li_25, li_26, li_27, li_28, li_29, li_30, li_31, li_32, li_34, li_35, li_40, li_41, li_45, li_48, li_49, li_50, li_57, li_58, li_59, li_60, li_61, li_64, li_65, li_97, li_99, li_100, li_115, li_116, li_121, li_122, li_200, li_255, li_256, li_300, li_999, li_1000, li_12345, li_65535, li_1103515245, if_true, if_false, nI_add, pk_mul, pk_sub, s_div, s_rem, s_cl, p_le_t, p_le_f, p_lt_t, p_lt_f, p_eq_t, p_eq_f, bd1_s, bd2_s, bd3_s, nm_s, gd_t, gd_in, gd_nz, gd_bz0, gd_bz1, gd_cp, u1, bd4t, y1, i6', bd6_s, i7, bd9_s, u3]))
              · rw [y2, ← e7]
                unfold f_X9_sky_b137 f_X9_sky_b156 f_X9_sky_b172 f_X9_sky_b186 f_X9_isWell
                (repeat (simp (disch := omega) only [li_0, li_1, li_2, li_3, li_4, li_5, li_6, li_7, li_8, li_9, li_10, li_11, li_12, li_13, li_14, li_15, li_16, li_17, li_18, li_19, li_20, li_21, li_22, li_23, li_24, li_25, li_26, li_27, li_28, li_29, li_30, li_31, li_32, li_34, li_35, li_40, li_41, li_45, li_48, li_49, li_50, li_57, li_58, li_59, li_60, li_61, li_64, li_65, li_97, li_99, li_100, li_115, li_116, li_121, li_122, li_200, li_255, li_256, li_300, li_999, li_1000, li_12345, li_65535, li_1103515245, if_true, if_false, nI_add, pk_mul, pk_sub, s_div, s_rem, s_cl, p_le_t, p_le_f, p_lt_t, p_lt_f, p_eq_t, p_eq_f, bd1_s, bd2_s, bd3_s, nm_s, gd_t, gd_in, gd_nz, gd_bz0, gd_bz1, gd_cp, e4, bd6_s, m1_0, i8, bd12_s, e6]))
          · obtain ⟨c3, c4, c5, numbers', i2'⟩ := i2 (nI K) (nI p) num'
            have e5 := sky_172D (len := len) (text := text) (f_X9_sky_b41 text th (nI len) msq mst mte mof msn s isK (k + 1)) (show pp < 1000000 by omega) (nI it) n2 k2 p2 v2 a1 a2 a3 a4 lea' pur' stars'
            have e7 := sky_dead (len := len) (text := text) (m := k) (p := pp) (by omega) th msq mst mte mof msn (nI it + nI 1) n2 k2 p2 v2 a1 a2 a3 a4 s isK lea' pur' stars'
            refine Or.inr ⟨pp, c3, nI pp, c4, c5, nI n, nI ns, nI nt, nI cnt, numbers', starts, paces, brights, purses, parts, lea', pur', stars', n2, k2, p2, v2, nI pp, a1, a2, a3, a4, i1, i4, ?_, ?_⟩
            · rw [f_X3_read_b10]
              unfold f_X3_read_b89
              (repeat (simp (disch := omega) only [li_0, li_1, li_2, li_3, li_4, li_5, li_6, li_7, li_8, li_9, li_10, li_11, li_12, li_13, li_14, li_15, li_16, li_17, li_18, li_19, li_20, li_21, li_22, li_23, li_24, li_25, li_26, li_27, li_28, li_29, li_30, li_31, li_32, li_34, li_35, li_40, li_41, li_45, li_48, li_49, li_50, li_57, li_58, li_59, li_60, li_61, li_64, li_65, li_97, li_99, li_100, li_115, li_116, li_121, li_122, li_200, li_255, li_256, li_300, li_999, li_1000, li_12345, li_65535, li_1103515245, if_true, if_false, nI_add, pk_mul, pk_sub, s_div, s_rem, s_cl, p_le_t, p_le_f, p_lt_t, p_lt_f, p_eq_t, p_eq_f, bd1_s, bd2_s, bd3_s, nm_s, gd_t, gd_in, gd_nz, gd_bz0, gd_bz1, gd_cp, u1, bd4t, y1, i2', bd6_s]))
            · rw [y2, ← e7, ← e5]
              unfold f_X9_sky_b137 f_X9_sky_b156 f_X9_isWell
              (repeat (simp (disch := omega) only [li_0, li_1, li_2, li_3, li_4, li_5, li_6, li_7, li_8, li_9, li_10, li_11, li_12, li_13, li_14, li_15, li_16, li_17, li_18, li_19, li_20, li_21, li_22, li_23, li_24, li_25, li_26, li_27, li_28, li_29, li_30, li_31, li_32, li_34, li_35, li_40, li_41, li_45, li_48, li_49, li_50, li_57, li_58, li_59, li_60, li_61, li_64, li_65, li_97, li_99, li_100, li_115, li_116, li_121, li_122, li_200, li_255, li_256, li_300, li_999, li_1000, li_12345, li_65535, li_1103515245, if_true, if_false, nI_add, pk_mul, pk_sub, s_div, s_rem, s_cl, p_le_t, p_le_f, p_lt_t, p_lt_f, p_eq_t, p_eq_f, bd1_s, bd2_s, bd3_s, nm_s, gd_t, gd_in, gd_nz, gd_bz0, gd_bz1, gd_cp, e4, bd6_s, m1_0, i3, bd12_s]))
end SK
