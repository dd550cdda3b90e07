/-! sky: its end -/
theorem m_sky337 (x1 th nx tk pl val ft sq st te dq ds dt dl : Int32) (lea pur stars isK : Nat → Int32) : ∀ (r k nn : Nat) (s : Nat → Int32), k + r = 50 → r < nn → ∃ s' : Nat → Int32, f_X9_sky_b337 x1 th nx tk pl val ft sq st te dq ds dt dl lea pur stars isK nn (nI k) s = some (x1, th, nI 0, nx, tk, pl, val, ft, sq, st, te, dq, ds, dt, dl, nI 0, nI 0, lea, pur, stars, upd s' 57 (nI 0), upd (upd isK 0 (nI 0)) 1 (nI 0)) ∧ ∀ j, s' j = if 7 + k ≤ j ∧ j < 57 then lea (j - 7) else s j := by
  intro r
  induction r with
  | zero =>
    intro k nn s hk hnn
    obtain ⟨m, rfl⟩ : ∃ m, nn = m + 1 := ⟨nn - 1, by omega⟩
    refine ⟨s, ?_, fun j => by rw [if_neg (by omega)]⟩
    rw [f_X9_sky_b337]
    (repeat (simp (disch := omega) only [li_0, li_1, li_2, li_3, li_4, li_5, li_6, li_7, li_8, li_9, li_10, li_11, li_12, li_13, li_14, li_15, li_16, li_17, li_18, li_19, li_20, li_21, li_22, li_23, li_24, li_25, li_26, li_27, li_28, li_29, li_30, li_31, li_32, li_34, li_35, li_40, li_41, li_45, li_48, li_49, li_50, li_57, li_58, li_59, li_60, li_61, li_64, li_65, li_97, li_99, li_100, li_115, li_116, li_121, li_122, li_200, li_255, li_256, li_300, li_999, li_1000, li_12345, li_65535, li_1103515245, if_true, if_false, nI_add, pk_mul, pk_sub, s_div, s_rem, s_cl, p_le_t, p_le_f, p_lt_t, p_lt_f, p_eq_t, p_eq_f, bd1_s, bd2_s, bd3_s, nm_s, gd_t, gd_in, gd_nz, gd_bz0, gd_bz1, gd_cp, nar_b0]))
  | succ r ih =>
    intro k nn s hk hnn
    obtain ⟨m, rfl⟩ : ∃ m, nn = m + 1 := ⟨nn - 1, by omega⟩
    obtain ⟨s', e1, e2⟩ := ih (k + 1) m (upd s (7 + k) (lea k)) (by omega) (by omega)
    refine ⟨s', ?_, fun j => ?_⟩
    · rw [f_X9_sky_b337]
      (repeat (simp (disch := omega) only [li_0, li_1, li_2, li_3, li_4, li_5, li_6, li_7, li_8, li_9, li_10, li_11, li_12, li_13, li_14, li_15, li_16, li_17, li_18, li_19, li_20, li_21, li_22, li_23, li_24, li_25, li_26, li_27, li_28, li_29, li_30, li_31, li_32, li_34, li_35, li_40, li_41, li_45, li_48, li_49, li_50, li_57, li_58, li_59, li_60, li_61, li_64, li_65, li_97, li_99, li_100, li_115, li_116, li_121, li_122, li_200, li_255, li_256, li_300, li_999, li_1000, li_12345, li_65535, li_1103515245, if_true, if_false, nI_add, pk_mul, pk_sub, s_div, s_rem, s_cl, p_le_t, p_le_f, p_lt_t, p_lt_f, p_eq_t, p_eq_f, bd1_s, bd2_s, bd3_s, nm_s, gd_t, gd_in, gd_nz, gd_bz0, gd_bz1, gd_cp, e1]))
    · rw [e2 j]
      by_cases h : j = 7 + k
      · rw [if_neg (by omega), if_pos (by omega), h, pk_us, show 7 + k - 7 = k by omega]
      · rw [pk_un h]
        by_cases h2 : 7 + k ≤ j ∧ j < 57
        · rw [if_pos h2, if_pos (by omega)]
        · rw [if_neg h2, if_neg (by omega)]
theorem m_sky273 {nt : Nat} (hnt : nt ≤ 4) (x1 th nx tk pl val ft sq st dq ds dt dl : Int32) (lea stars isK : Nat → Int32) : ∀ (r t nn : Nat) (pur s : Nat → Int32), t + r = 4 → r < nn → ∃ pur' s' : Nat → Int32, f_X9_sky_b273 x1 th nx tk pl val ft sq st (nI nt) dq ds dt dl lea stars isK nn (nI t) pur s = f_X9_sky_b337 x1 th nx tk pl val ft sq st (nI nt) dq ds dt dl lea pur' stars isK zF (nI 0) (upd s' 6 dl) ∧ (∀ j, t ≤ j → j < nt → s' (2 + j) = pur (4 + j)) ∧ ∀ j, j < 2 + t ∨ 6 ≤ j → s' j = s j := by
  intro r
  induction r with
  | zero =>
    intro t nn pur s ht hnn
    obtain ⟨m, rfl⟩ : ∃ m, nn = m + 1 := ⟨nn - 1, by omega⟩
    refine ⟨pur, s, ?_, fun j h1 h2 => by omega, fun _ _ => rfl⟩
    rw [f_X9_sky_b273]
    (repeat (simp (disch := omega) only [li_0, li_1, li_2, li_3, li_4, li_5, li_6, li_7, li_8, li_9, li_10, li_11, li_12, li_13, li_14, li_15, li_16, li_17, li_18, li_19, li_20, li_21, li_22, li_23, li_24, li_25, li_26, li_27, li_28, li_29, li_30, li_31, li_32, li_34, li_35, li_40, li_41, li_45, li_48, li_49, li_50, li_57, li_58, li_59, li_60, li_61, li_64, li_65, li_97, li_99, li_100, li_115, li_116, li_121, li_122, li_200, li_255, li_256, li_300, li_999, li_1000, li_12345, li_65535, li_1103515245, if_true, if_false, nI_add, pk_mul, pk_sub, s_div, s_rem, s_cl, p_le_t, p_le_f, p_lt_t, p_lt_f, p_eq_t, p_eq_f, bd1_s, bd2_s, bd3_s, nm_s, gd_t, gd_in, gd_nz, gd_bz0, gd_bz1, gd_cp]))
  | succ r ih =>
    intro t nn pur s ht hnn
    obtain ⟨m, rfl⟩ : ∃ m, nn = m + 1 := ⟨nn - 1, by omega⟩
    by_cases h : nt ≤ t
    · obtain ⟨pur', s', e1, e2, e3⟩ := ih (t + 1) m (upd pur t (pur (4 + t))) (upd s (2 + t) (nI 0)) (by omega) (by omega)
      refine ⟨pur', s', ?_, fun j h1 h2 => by omega, fun j hj => ?_⟩
      · rw [f_X9_sky_b273]
        unfold f_X9_sky_b317
        (repeat (simp (disch := omega) only [li_0, li_1, li_2, li_3, li_4, li_5, li_6, li_7, li_8, li_9, li_10, li_11, li_12, li_13, li_14, li_15, li_16, li_17, li_18, li_19, li_20, li_21, li_22, li_23, li_24, li_25, li_26, li_27, li_28, li_29, li_30, li_31, li_32, li_34, li_35, li_40, li_41, li_45, li_48, li_49, li_50, li_57, li_58, li_59, li_60, li_61, li_64, li_65, li_97, li_99, li_100, li_115, li_116, li_121, li_122, li_200, li_255, li_256, li_300, li_999, li_1000, li_12345, li_65535, li_1103515245, if_true, if_false, nI_add, pk_mul, pk_sub, s_div, s_rem, s_cl, p_le_t, p_le_f, p_lt_t, p_lt_f, p_eq_t, p_eq_f, bd1_s, bd2_s, bd3_s, nm_s, gd_t, gd_in, gd_nz, gd_bz0, gd_bz1, gd_cp, e1]))
      · rw [e3 j (by omega), pk_un (by omega)]
    · obtain ⟨pur', s', e1, e2, e3⟩ := ih (t + 1) m (upd pur t (pur (4 + t))) (upd s (2 + t) (pur (4 + t))) (by omega) (by omega)
      refine ⟨pur', s', ?_, fun j h1 h2 => ?_, fun j hj => ?_⟩
      · rw [f_X9_sky_b273]
        unfold f_X9_sky_b317
        (repeat (simp (disch := omega) only [li_0, li_1, li_2, li_3, li_4, li_5, li_6, li_7, li_8, li_9, li_10, li_11, li_12, li_13, li_14, li_15, li_16, li_17, li_18, li_19, li_20, li_21, li_22, li_23, li_24, li_25, li_26, li_27, li_28, li_29, li_30, li_31, li_32, li_34, li_35, li_40, li_41, li_45, li_48, li_49, li_50, li_57, li_58, li_59, li_60, li_61, li_64, li_65, li_97, li_99, li_100, li_115, li_116, li_121, li_122, li_200, li_255, li_256, li_300, li_999, li_1000, li_12345, li_65535, li_1103515245, if_true, if_false, nI_add, pk_mul, pk_sub, s_div, s_rem, s_cl, p_le_t, p_le_f, p_lt_t, p_lt_f, p_eq_t, p_eq_f, bd1_s, bd2_s, bd3_s, nm_s, gd_t, gd_in, gd_nz, gd_bz0, gd_bz1, gd_cp, pk_us, e1]))
      · by_cases hj : j = t
        · subst hj
          rw [e3 (2 + j) (by omega), pk_us]
        · rw [e2 j (by omega) h2, pk_un (by omega)]
      · rw [e3 j (by omega), pk_un (by omega)]
theorem m_sky237 (x1 th nx tk pl val ft sq st te dq ds dt dl : Int32) (lea pur s isK : Nat → Int32) : ∀ (r k nn : Nat) (stars : Nat → Int32), k + r = 24 → r < nn → ∃ stars' : Nat → Int32, f_X9_sky_b237 x1 th nx tk pl val ft sq st te dq ds dt dl lea pur s isK nn (nI k) stars = f_X9_sky_b273 x1 th nx tk pl val ft sq st te dq ds dt dl lea stars' isK zF (nI 0) pur (upd s 0 (nI 0)) ∧ ∀ j, stars' j = if k ≤ j ∧ j < 24 then stars (24 + j) else stars j := by
  intro r
  induction r with
  | zero =>
    intro k nn stars hk hnn
    obtain ⟨m, rfl⟩ : ∃ m, nn = m + 1 := ⟨nn - 1, by omega⟩
    refine ⟨stars, ?_, fun j => by rw [if_neg (by omega)]⟩
    rw [f_X9_sky_b237]
    (repeat (simp (disch := omega) only [li_0, li_1, li_2, li_3, li_4, li_5, li_6, li_7, li_8, li_9, li_10, li_11, li_12, li_13, li_14, li_15, li_16, li_17, li_18, li_19, li_20, li_21, li_22, li_23, li_24, li_25, li_26, li_27, li_28, li_29, li_30, li_31, li_32, li_34, li_35, li_40, li_41, li_45, li_48, li_49, li_50, li_57, li_58, li_59, li_60, li_61, li_64, li_65, li_97, li_99, li_100, li_115, li_116, li_121, li_122, li_200, li_255, li_256, li_300, li_999, li_1000, li_12345, li_65535, li_1103515245, if_true, if_false, nI_add, pk_mul, pk_sub, s_div, s_rem, s_cl, p_le_t, p_le_f, p_lt_t, p_lt_f, p_eq_t, p_eq_f, bd1_s, bd2_s, bd3_s, nm_s, gd_t, gd_in, gd_nz, gd_bz0, gd_bz1, gd_cp]))
  | succ r ih =>
    intro k nn stars hk hnn
    obtain ⟨m, rfl⟩ : ∃ m, nn = m + 1 := ⟨nn - 1, by omega⟩
    obtain ⟨stars', e1, e2⟩ := ih (k + 1) m (upd stars k (stars (24 + k))) (by omega) (by omega)
    refine ⟨stars', ?_, fun j => ?_⟩
    · rw [f_X9_sky_b237]
      (repeat (simp (disch := omega) only [li_0, li_1, li_2, li_3, li_4, li_5, li_6, li_7, li_8, li_9, li_10, li_11, li_12, li_13, li_14, li_15, li_16, li_17, li_18, li_19, li_20, li_21, li_22, li_23, li_24, li_25, li_26, li_27, li_28, li_29, li_30, li_31, li_32, li_34, li_35, li_40, li_41, li_45, li_48, li_49, li_50, li_57, li_58, li_59, li_60, li_61, li_64, li_65, li_97, li_99, li_100, li_115, li_116, li_121, li_122, li_200, li_255, li_256, li_300, li_999, li_1000, li_12345, li_65535, li_1103515245, if_true, if_false, nI_add, pk_mul, pk_sub, s_div, s_rem, s_cl, p_le_t, p_le_f, p_lt_t, p_lt_f, p_eq_t, p_eq_f, bd1_s, bd2_s, bd3_s, nm_s, gd_t, gd_in, gd_nz, gd_bz0, gd_bz1, gd_cp, e1]))
    · rw [e2 j]
      by_cases h : j = k
      · rw [if_neg (by omega), if_pos (by omega), h, pk_us]
      · by_cases h2 : k ≤ j ∧ j < 24
        · rw [if_pos (by omega), if_pos h2, pk_un (by omega)]
        · rw [if_neg (by omega), if_neg h2, pk_un h]
theorem m_skyend {n ns nt cnt : Nat} {sa sp sb ld : Nat → Nat} {starts paces brights purses parts lea pur stars : Nat → Int32} (hD : DR n ns nt cnt sa sp sb ld starts paces brights purses parts lea pur stars) (x1 th ty nx tk pl val msq mst mte mof msn : Int32) (s isK : Nat → Int32) : ∃ pur' stars' s' : Nat → Int32, f_X9_sky_b196 x1 th ty nx tk pl val (-nI 1) msq mst mte (nI n) (nI ns) (nI nt) (nI cnt) mof msn lea pur stars s isK = some (x1, th, nI 0, nx, tk, pl, val, -nI 1, nI n, nI ns, nI nt, nI n, nI ns, nI nt, nI cnt, nI 0, nI 0, lea, pur', stars', s', upd (upd isK 0 (nI 0)) 1 (nI 0)) ∧ s' 0 = nI 0 ∧ s' 1 = s 1 ∧ (∀ j, j < nt → s' (2 + j) = pur (4 + j)) ∧ s' 6 = nI cnt ∧ (∀ j, j < 50 → s' (7 + j) = lea j) ∧ s' 57 = nI 0 ∧ ∀ j, j < 24 → stars' j = stars (24 + j) := by
  obtain ⟨d1, d2, d3, d4, d5, d6, d7, d8, d9⟩ := id hD
  obtain ⟨stars', e1, e2⟩ := m_sky237 x1 th nx tk pl val (-nI 1) (nI n) (nI ns) (nI nt) (nI n) (nI ns) (nI nt) (nI cnt) lea pur s isK 24 0 zF stars (by omega) (by unfold zF; omega)
  obtain ⟨pur', s1, e3, e4, e5⟩ := m_sky273 d4 x1 th nx tk pl val (-nI 1) (nI n) (nI ns) (nI n) (nI ns) (nI nt) (nI cnt) lea stars' isK 4 0 zF pur (upd s 0 (nI 0)) (by omega) (by unfold zF; omega)
  obtain ⟨s2, e6, e7⟩ := m_sky337 x1 th nx tk pl val (-nI 1) (nI n) (nI ns) (nI nt) (nI n) (nI ns) (nI nt) (nI cnt) lea pur' stars' isK 50 0 zF (upd s1 6 (nI cnt)) (by omega) (by unfold zF; omega)
  refine ⟨pur', stars', upd s2 57 (nI 0), ?_, ?_, ?_, fun j hj => ?_, ?_, fun j hj => ?_, pk_us, fun j hj => ?_⟩
  · unfold f_X9_sky_b196 f_X9_isWell
    (repeat (simp (disch := omega) only [li_0, li_1, li_2, li_3, li_4, li_5, li_6, li_7, li_8, li_9, li_10, li_11, li_12, li_13, li_14, li_15, li_16, li_17, li_18, li_19, li_20, li_21, li_22, li_23, li_24, li_25, li_26, li_27, li_28, li_29, li_30, li_31, li_32, li_34, li_35, li_40, li_41, li_45, li_48, li_49, li_50, li_57, li_58, li_59, li_60, li_61, li_64, li_65, li_97, li_99, li_100, li_115, li_116, li_121, li_122, li_200, li_255, li_256, li_300, li_999, li_1000, li_12345, li_65535, li_1103515245, if_true, if_false, nI_add, pk_mul, pk_sub, s_div, s_rem, s_cl, p_le_t, p_le_f, p_lt_t, p_lt_f, p_eq_t, p_eq_f, bd1_s, bd2_s, bd3_s, nm_s, gd_t, gd_in, gd_nz, gd_bz0, gd_bz1, gd_cp, m1_0, e1, e3, e6]))
  · rw [pk_un (by omega), e7 0, if_neg (by omega), pk_un (by omega), e5 0 (by omega), pk_us]
  · rw [pk_un (by omega), e7 1, if_neg (by omega), pk_un (by omega), e5 1 (by omega), pk_un (by omega)]
  · rw [pk_un (by omega), e7 (2 + j), if_neg (by omega), pk_un (by omega), e4 j (by omega) hj]
  · rw [pk_un (by omega), e7 6, if_neg (by omega), pk_us]
  · rw [pk_un (by omega), e7 (7 + j), if_pos (by omega), show 7 + j - 7 = j by omega]
  · rw [e2 j, if_pos (by omega)]
theorem pm_sky (a : Nat → Nat) (v : Nat → Int32) (r : Nat → Nat → Int32) (t : Int64) (vm : Nat → Int32) (rm : Nat → Nat → Int32) (tm : Int64) (hI : Inv v r t vm rm tm) : ∃ (R0 : Int32) (w0 : Int32) (w1 : Int32) (w2 : Int32) (w3 : Int32) (w4 : Int32) (w5 : Int32) (w6 : Int32) (w7 : Int32) (w8 : Int32) (w9 : Nat → Int32) (w10 : Nat → Int32) (w11 : Nat → Int32) (w12 : Nat → Int32) (w13 : Nat → Int32) (w14 : Nat → Int32) (w15 : Int32) (w16 : Nat → Int32) (w17 : Int32) (w18 : Nat → Int32) (w19 : Int32) (w20 : Int32) (w21 : Int32) (w22 : Nat → Int32) (z0 : Int32) (z1 : Int32) (z2 : Int32) (z3 : Int32) (z4 : Int32) (z5 : Int32) (z6 : Int32) (z7 : Int32) (z8 : Int32) (z9 : Int32) (z10 : Int32) (z11 : Int32) (z12 : Int32) (z13 : Int32) (z14 : Int32) (z15 : Int32) (z16 : Nat → Int32) (z17 : Nat → Int32) (z18 : Nat → Int32) (z19 : Nat → Int32) (z20 : Nat → Int32), f_X9_sky (vm 0) (vm 1) (vm 2) (vm 3) (vm 4) (vm 5) (vm 6) (vm 7) (vm 8) (vm 9) (vm 10) (vm 11) (vm 12) (vm 13) (vm 14) (vm 15) (rm 0) (rm 3) (rm 2) (rm 1) (rm 4) (rm 6) = some (R0, z0, z1, z2, z3, z4, z5, z6, z7, z8, z9, z10, z11, z12, z13, z14, z15, z16, z17, z18, z19, z20) ∧ ((f_X8_sky (a 12) (a 5) (v 0) (v 1) (v 2) (v 3) (v 4) (v 10) (v 11) (v 12) (v 13) (v 14) (r 0) (r 1) (r 7) (r 8) (r 9) (r 10) (r 11) (v 15) (r 12) (v 18) (r 13) (v 20) (v 34) (v 35) (r 24) = some (R0, w0, w1, w2, w3, w4, w5, w6, w7, w8, w9, w10, w11, w12, w13, w14, w15, w16, w17, w18, w19, w20, w21, w22, (a 12), (a 5)) ∧ Inv (upd (upd (upd (upd (upd (upd (upd (upd (upd (upd (upd (upd (upd (upd v 0 w0) 1 w1) 2 w2) 3 w3) 4 w4) 10 w5) 11 w6) 12 w7) 14 w8) 15 w15) 18 w17) 20 w19) 34 w20) 35 w21) (updA (updA (updA (updA (updA (updA (updA (updA (updA r 1 w9) 7 w10) 8 w11) 9 w12) 10 w13) 11 w14) 12 w16) 13 w18) 24 w22) t (upd (upd (upd (upd (upd (upd (upd (upd (upd (upd (upd (upd (upd (upd (upd (upd vm 0 z0) 1 z1) 2 z2) 3 z3) 4 z4) 5 z5) 6 z6) 7 z7) 8 z8) 9 z9) 10 z10) 11 z11) 12 z12) 13 z13) 14 z14) 15 z15) (updA (updA (updA (updA (updA rm 3 z16) 2 z17) 1 z18) 4 z19) 6 z20) tm) ∨ (f_X8_sky (a 12) (a 5) (v 0) (v 1) (v 2) (v 3) (v 4) (v 10) (v 11) (v 12) (v 13) (v 14) (r 0) (r 1) (r 7) (r 8) (r 9) (r 10) (r 11) (v 15) (r 12) (v 18) (r 13) (v 20) (v 34) (v 35) (r 24) = some (R0, w0, w1, w2, w3, w4, w5, w6, w7, w8, w9, w10, w11, w12, w13, w14, w15, w16, w17, w18, w19, w20, w21, w22, (a 5), (a 12)) ∧ Inv (swI (upd (upd (upd (upd (upd (upd (upd (upd (upd (upd (upd (upd (upd (upd v 0 w0) 1 w1) 2 w2) 3 w3) 4 w4) 10 w5) 11 w6) 12 w7) 14 w8) 15 w15) 18 w17) 20 w19) 34 w20) 35 w21)) (swA (updA (updA (updA (updA (updA (updA (updA (updA (updA r 1 w9) 7 w10) 8 w11) 9 w12) 10 w13) 11 w14) 12 w16) 13 w18) 24 w22)) t (upd (upd (upd (upd (upd (upd (upd (upd (upd (upd (upd (upd (upd (upd (upd (upd vm 0 z0) 1 z1) 2 z2) 3 z3) 4 z4) 5 z5) 6 z6) 7 z7) 8 z8) 9 z9) 10 z10) 11 z11) 12 z12) 13 z13) 14 z14) 15 z15) (updA (updA (updA (updA (updA rm 3 z16) 2 z17) 1 z18) 4 z19) 6 z20) tm)) := by
  obtain ⟨n, ns, nt, sa, sp, sb, hS, ⟨len, bt', hlen, x1, x2, hbt⟩, hN, hI0, hI1, hO, hEe, htr, m8, m13, m17, m19, m33⟩ := id hI
  obtain ⟨b1, b2, b3, b4, s1, s2, s3, s4, s5, s6, hst⟩ := id hS
  obtain ⟨⟨d0, hd0, n1, n2⟩, n3, n4, cnt, un, ld, ub, uk, ud, cn, hL, hU⟩ := id hN
  have hB : gB len bt' (r 0) (rm 0) := ⟨hlen, hbt⟩
  obtain ⟨q1, q2, q3, q4, ea, hM⟩ := ms_adv hB (Nat.zero_le len) (vm 3) (vm 4) (vm 5)
  have hD : DR 4 0 0 0 sa sp sb ld (r 7) (r 8) (r 9) (r 10) (r 11) (rm 3) (rm 2) (rm 1) := ⟨by decide, by decide, by decide, by decide, by decide, fun j hj => by omega, fun j hj => by omega, fun j hj => by omega, fun k hk => by omega⟩
  have hlp := sky_loop hB (nI 0) (vm 7) (vm 8) (vm 9) (vm 14) (vm 15) (rm 4) (rm 6) (len + 1) 0 0 zF zF 4 0 0 0 sa sp sb ld (r 1) (r 7) (r 8) (r 9) (r 10) (r 11) (rm 3) (rm 2) (rm 1) q1 q2 q3 q4 (v 1) (v 2) (v 3) (by omega) (by omega) (by unfold zF; omega) (by unfold zF; omega) (by omega) (fun _ => ⟨rfl, rfl⟩) hD hM
  unfold f_X9_sky f_X8_sky f_X3_read f_X5_empty f_X7_rewind
  rw [x1, x2, m13]
  rcases hlp with ⟨it, n', ns', nt', cnt', sa', sp', sb', ld', t3, p3, b3', x3, nu', st', pa', br', pu', pr', le', pe', sr', y1, y2, y3, y4, j1, hD2, j3, j4, j5⟩ | ⟨p, t3, p3, b3', x3, c1, c2, c3, c4, nu', st', pa', br', pu', pr', le', pe', sr', y1, y2, y3, y4, f1, a1, a2, a3, a4, j1, j2, j3, j4⟩
  · obtain ⟨d1, d2, d3, d4, d5, d6, d7, d8, d9⟩ := id hD2
    obtain ⟨pe2, sr2, s', e1, e2, e3, e4, e5, e6, e7, e8⟩ := m_skyend hD2 (nI it) (nI 0) (nI len) y1 y2 y3 y4 (vm 7) (vm 8) (vm 9) (vm 14) (vm 15) (rm 4) (rm 6)
    have hcopy : ∀ j, j < 4 → va_cpy pu' (r 12) 0 0 4 j = pu' j := fun j hj => by rw [pk_cpy_in (by omega) (by omega)]; congr 1; omega
    have hcopy2 : ∀ j, j < 50 → va_cpy pr' (r 13) 0 0 50 j = pr' j := fun j hj => by rw [pk_cpy_in (by omega) (by omega)]; congr 1; omega
    refine ⟨nI it, nI 0, t3, p3, b3', x3, nI n', nI ns', nI nt', nI cnt', nu', st', pa', br', pu', pr', nI 0, va_cpy pu' (r 12) 0 0 4, nI cnt', va_cpy pr' (r 13) 0 0 50, nI 0, nI 0, nI 0, upd (upd (r 24) 0 (nI 0)) 1 (nI 0), nI 0, nI 0, y1, y2, y3, y4, -nI 1, nI n', nI ns', nI nt', nI n', nI ns', nI nt', nI cnt', nI 0, nI 0, le', pe2, sr2, s', upd (upd (rm 6) 0 (nI 0)) 1 (nI 0), ?_, Or.inr ⟨?_, ?_⟩⟩
    · (repeat (simp (disch := omega) only [li_0, li_1, li_2, li_3, li_4, li_5, li_6, li_7, li_8, li_9, li_10, li_11, li_12, li_13, li_14, li_15, li_16, li_17, li_18, li_19, li_20, li_21, li_22, li_23, li_24, li_25, li_26, li_27, li_28, li_29, li_30, li_31, li_32, li_34, li_35, li_40, li_41, li_45, li_48, li_49, li_50, li_57, li_58, li_59, li_60, li_61, li_64, li_65, li_97, li_99, li_100, li_115, li_116, li_121, li_122, li_200, li_255, li_256, li_300, li_999, li_1000, li_12345, li_65535, li_1103515245, if_true, if_false, nI_add, pk_mul, pk_sub, s_div, s_rem, s_cl, p_le_t, p_le_f, p_lt_t, p_lt_f, p_eq_t, p_eq_f, bd1_s, bd2_s, bd3_s, nm_s, gd_t, gd_in, gd_nz, gd_bz0, gd_bz1, gd_cp, ea, bd4t, j5, e1]))
    · unfold f_X0_startWith f_X6_become
      rw [li_0, li_4, li_10] at *
      (repeat (simp (disch := omega) only [li_0, li_1, li_2, li_3, li_4, li_5, li_6, li_7, li_8, li_9, li_10, li_11, li_12, li_13, li_14, li_15, li_16, li_17, li_18, li_19, li_20, li_21, li_22, li_23, li_24, li_25, li_26, li_27, li_28, li_29, li_30, li_31, li_32, li_34, li_35, li_40, li_41, li_45, li_48, li_49, li_50, li_57, li_58, li_59, li_60, li_61, li_64, li_65, li_97, li_99, li_100, li_115, li_116, li_121, li_122, li_200, li_255, li_256, li_300, li_999, li_1000, li_12345, li_65535, li_1103515245, if_true, if_false, nI_add, pk_mul, pk_sub, s_div, s_rem, s_cl, p_le_t, p_le_f, p_lt_t, p_lt_f, p_eq_t, p_eq_f, bd1_s, bd2_s, bd3_s, nm_s, gd_t, gd_in, gd_nz, gd_bz0, gd_bz1, gd_cp, bd4t, j4, bd15_s, bd5_s]))
      rw [hz6, f_X8_sky_b80]
      (repeat (simp (disch := omega) only [li_0, li_1, li_2, li_3, li_4, li_5, li_6, li_7, li_8, li_9, li_10, li_11, li_12, li_13, li_14, li_15, li_16, li_17, li_18, li_19, li_20, li_21, li_22, li_23, li_24, li_25, li_26, li_27, li_28, li_29, li_30, li_31, li_32, li_34, li_35, li_40, li_41, li_45, li_48, li_49, li_50, li_57, li_58, li_59, li_60, li_61, li_64, li_65, li_97, li_99, li_100, li_115, li_116, li_121, li_122, li_200, li_255, li_256, li_300, li_999, li_1000, li_12345, li_65535, li_1103515245, if_true, if_false, nI_add, pk_mul, pk_sub, s_div, s_rem, s_cl, p_le_t, p_le_f, p_lt_t, p_lt_f, p_eq_t, p_eq_f, bd1_s, bd2_s, bd3_s, nm_s, gd_t, gd_in, gd_nz, gd_bz0, gd_bz1, gd_cp, nar_b0, Nat.zero_add]))
      rw [f_X8_sky_b80]
      (repeat (simp (disch := omega) only [li_0, li_1, li_2, li_3, li_4, li_5, li_6, li_7, li_8, li_9, li_10, li_11, li_12, li_13, li_14, li_15, li_16, li_17, li_18, li_19, li_20, li_21, li_22, li_23, li_24, li_25, li_26, li_27, li_28, li_29, li_30, li_31, li_32, li_34, li_35, li_40, li_41, li_45, li_48, li_49, li_50, li_57, li_58, li_59, li_60, li_61, li_64, li_65, li_97, li_99, li_100, li_115, li_116, li_121, li_122, li_200, li_255, li_256, li_300, li_999, li_1000, li_12345, li_65535, li_1103515245, if_true, if_false, nI_add, pk_mul, pk_sub, s_div, s_rem, s_cl, p_le_t, p_le_f, p_lt_t, p_lt_f, p_eq_t, p_eq_f, bd1_s, bd2_s, bd3_s, nm_s, gd_t, gd_in, gd_nz, gd_bz0, gd_bz1, gd_cp, nar_b0]))
      rw [f_X8_sky_b80]
      (repeat (simp (disch := omega) only [li_0, li_1, li_2, li_3, li_4, li_5, li_6, li_7, li_8, li_9, li_10, li_11, li_12, li_13, li_14, li_15, li_16, li_17, li_18, li_19, li_20, li_21, li_22, li_23, li_24, li_25, li_26, li_27, li_28, li_29, li_30, li_31, li_32, li_34, li_35, li_40, li_41, li_45, li_48, li_49, li_50, li_57, li_58, li_59, li_60, li_61, li_64, li_65, li_97, li_99, li_100, li_115, li_116, li_121, li_122, li_200, li_255, li_256, li_300, li_999, li_1000, li_12345, li_65535, li_1103515245, if_true, if_false, nI_add, pk_mul, pk_sub, s_div, s_rem, s_cl, p_le_t, p_le_f, p_lt_t, p_lt_f, p_eq_t, p_eq_f, bd1_s, bd2_s, bd3_s, nm_s, gd_t, gd_in, gd_nz, gd_bz0, gd_bz1, gd_cp]))
    · refine ⟨n', ns', nt', sa', sp', sb', ⟨d1, d2, d3, d4, rfl, rfl, rfl, rfl, rfl, rfl, fun j hj => ?_⟩, ⟨0, fun _ => 0, by decide, rfl, rfl, fun j hj => absurd hj (Nat.not_lt_zero j)⟩, ⟨⟨0, by decide, rfl, e2⟩, ?_, fun j hj => ?_, cnt', 0, ld', fun _ => false, fun _ => 0, fun _ => 0, fun _ => cnt', ⟨d5, rfl, e5, fun j hj => ⟨?_, ?_⟩, d9⟩, ⟨by decide, rfl, e7, rfl, fun j hj => absurd hj (Nat.not_lt_zero j)⟩⟩, ⟨rfl, Or.inl rfl, fun h => absurd (show (nI 0 : Int32) = 1 from h) (by decide)⟩, ⟨rfl, Or.inl rfl, fun h => absurd (show (nI 0 : Int32) = 1 from h) (by decide)⟩, ⟨0, fun _ => 0, fun _ => 0, by decide, rfl, rfl, fun j hj => absurd hj (Nat.not_lt_zero j)⟩, ⟨0, fun _ => 0, fun _ => 0, by decide, rfl, rfl, fun j hj => absurd hj (Nat.not_lt_zero j)⟩, htr, m13, m8, m17, m19, m33⟩
      · obtain ⟨z1, z2, z3, z4, z5, z6, z7, z8, z9, z10⟩ := d6 j hj
        refine ⟨z1, z2, z3, z4, z5, z6, z7, ?_, ?_, ?_⟩
        · exact (e8 (3 * j) (by omega)).trans z8
        · exact (e8 (3 * j + 1) (by omega)).trans z9
        · exact (e8 (3 * j + 2) (by omega)).trans z10
      · exact n3.trans e3.symm
      · exact ((hcopy j (by omega)).trans (d7 j hj)).trans (e4 j hj).symm
      · exact (hcopy2 j (by omega)).trans (d8 j hj).1
      · exact (e6 j (by omega)).trans (d8 j hj).2
  · have hneg := m10_0 p (by omega)
    refine ⟨-nI 10 - nI p, nI len, t3, p3, b3', x3, c1, c2, c3, c4, nu', st', pa', br', pu', pr', v 15, r 12, v 18, r 13, v 20, v 34, v 35, r 24, nI 0, nI len, y1, y2, y3, y4, f1, vm 7, vm 8, vm 9, a1, a2, a3, a4, vm 14, vm 15, le', pe', sr', rm 4, rm 6, ?_, Or.inl ⟨?_, ?_⟩⟩
    · (repeat (simp (disch := omega) only [li_0, li_1, li_2, li_3, li_4, li_5, li_6, li_7, li_8, li_9, li_10, li_11, li_12, li_13, li_14, li_15, li_16, li_17, li_18, li_19, li_20, li_21, li_22, li_23, li_24, li_25, li_26, li_27, li_28, li_29, li_30, li_31, li_32, li_34, li_35, li_40, li_41, li_45, li_48, li_49, li_50, li_57, li_58, li_59, li_60, li_61, li_64, li_65, li_97, li_99, li_100, li_115, li_116, li_121, li_122, li_200, li_255, li_256, li_300, li_999, li_1000, li_12345, li_65535, li_1103515245, if_true, if_false, nI_add, pk_mul, pk_sub, s_div, s_rem, s_cl, p_le_t, p_le_f, p_lt_t, p_lt_f, p_eq_t, p_eq_f, bd1_s, bd2_s, bd3_s, nm_s, gd_t, gd_in, gd_nz, gd_bz0, gd_bz1, gd_cp, ea, bd4t, j4]))
    · (repeat (simp (disch := omega) only [li_0, li_1, li_2, li_3, li_4, li_5, li_6, li_7, li_8, li_9, li_10, li_11, li_12, li_13, li_14, li_15, li_16, li_17, li_18, li_19, li_20, li_21, li_22, li_23, li_24, li_25, li_26, li_27, li_28, li_29, li_30, li_31, li_32, li_34, li_35, li_40, li_41, li_45, li_48, li_49, li_50, li_57, li_58, li_59, li_60, li_61, li_64, li_65, li_97, li_99, li_100, li_115, li_116, li_121, li_122, li_200, li_255, li_256, li_300, li_999, li_1000, li_12345, li_65535, li_1103515245, if_true, if_false, nI_add, pk_mul, pk_sub, s_div, s_rem, s_cl, p_le_t, p_le_f, p_lt_t, p_lt_f, p_eq_t, p_eq_f, bd1_s, bd2_s, bd3_s, nm_s, gd_t, gd_in, gd_nz, gd_bz0, gd_bz1, gd_cp, bd4t, j3, bd15_s, hneg]))
    · refine ⟨n, ns, nt, sa, sp, sb, ⟨b1, b2, b3, b4, s1, s2, s3, s4, s5, s6, fun j hj => ?_⟩, ⟨len, bt', hlen, rfl, rfl, hbt⟩, hN, hI0, hI1, hO, hEe, htr, m8, m13, m17, m19, m33⟩
      obtain ⟨z1, z2, z3, z4, z5, z6, z7, z8, z9, z10⟩ := hst j hj
      refine ⟨z1, z2, z3, z4, z5, z6, z7, ?_, ?_, ?_⟩
      · exact (j2 (3 * j) (by omega)).trans z8
      · exact (j2 (3 * j + 1) (by omega)).trans z9
      · exact (j2 (3 * j + 2) (by omega)).trans z10
