/-! begins, ends, undo -/
theorem gU_push {n nt cnt un un' sh cnt' k : Nat} {ub : Nat → Bool} {uk ud cn : Nat → Nat} {usize usize' : Int32} {up pl s up' pl' s' : Nat → Int32} {b : Bool} {rd : Nat → Nat} (h : gU n nt cnt un ub uk ud cn usize up pl s) (hs : un' + sh = un) (h5 : un' ≤ 5) (hu : usize' = nI (un' + 1)) (h57 : s' 57 = nI (un' + 1))
    (hsh : ∀ e, e < un' → pl' e = pl (e + sh) ∧ (∀ j, j < 5 → up' (5 * e + j) = up (5 * (e + sh) + j)) ∧ ∀ j, j < 7 → s' (58 + 7 * e + j) = s (58 + 7 * (e + sh) + j))
    (hc : cnt ≤ 10) (hk1 : s' (58 + 7 * un') = (if b = true then 1 else 0)) (hk2 : s' (59 + 7 * un') = nI k) (ht : b = true → pl' un' = -1 ∧ cnt' = cnt + 1 ∧ k = cnt) (hf : b = false → pl' un' = nI k ∧ cnt = cnt' + 1 ∧ k ≤ cnt' ∧ okL n nt rd 0 ∧ ∀ j, j < 5 → up' (5 * un' + j) = nI (rd j) ∧ s' (60 + 7 * un' + j) = nI (rd j)) :
    ∃ (ub' : Nat → Bool) (uk' ud' cn' : Nat → Nat), gU n nt cnt' (un' + 1) ub' uk' ud' cn' usize' up' pl' s' := by
  obtain ⟨a1, a2, a3, a4, a5⟩ := h
  refine ⟨fun e => if e < un' then ub (e + sh) else b, fun e => if e < un' then uk (e + sh) else k, fun i => if i < 5 * un' then ud (i + 5 * sh) else rd (i - 5 * un'), fun e => if e ≤ un' then cn (e + sh) else cnt', by omega, hu, h57, by dsimp only; rw [if_neg (by omega)], fun e he => ?_⟩
  by_cases hl : e < un'
  · obtain ⟨g1, g2, g3, g4, g5⟩ := a5 (e + sh) (by omega)
    obtain ⟨q1, q2, q3⟩ := hsh e hl
    have z0 := q3 0 (by decide)
    have z1 := q3 1 (by decide)
    simp only [if_pos hl, if_pos (show e ≤ un' by omega), if_pos (show e + 1 ≤ un' by omega), show e + 1 + sh = e + sh + 1 by omega]
    refine ⟨g1, by rw [show 58 + 7 * e = 58 + 7 * e + 0 by omega, z0]; exact g2, by rw [show 59 + 7 * e = 58 + 7 * e + 1 by omega, z1, show 58 + 7 * (e + sh) + 1 = 59 + 7 * (e + sh) by omega]; exact g3, fun hb => ?_, fun hb => ?_⟩
    · rw [q1]
      exact g4 hb
    · obtain ⟨k1, k2, k3, k4, k5⟩ := g5 hb
      refine ⟨by rw [q1]; exact k1, k2, k3, ?_, fun j hj => ?_⟩
      · unfold okL at k4 ⊢
        simp only [show ∀ i, i < 5 → (if 5 * e + i < 5 * un' then ud (5 * e + i + 5 * sh) else rd (5 * e + i - 5 * un')) = ud (5 * (e + sh) + i) from fun i hi => by rw [if_pos (by omega), show 5 * e + i + 5 * sh = 5 * (e + sh) + i by omega]]
        have t0 : (if 5 * e < 5 * un' then ud (5 * e + 5 * sh) else rd (5 * e - 5 * un')) = ud (5 * (e + sh)) := by rw [if_pos (by omega), show 5 * e + 5 * sh = 5 * (e + sh) by omega]
        have t1 : (if 5 * e + 1 < 5 * un' then ud (5 * e + 1 + 5 * sh) else rd (5 * e + 1 - 5 * un')) = ud (5 * (e + sh) + 1) := by rw [if_pos (by omega), show 5 * e + 1 + 5 * sh = 5 * (e + sh) + 1 by omega]
        have t2 : (if 5 * e + 2 < 5 * un' then ud (5 * e + 2 + 5 * sh) else rd (5 * e + 2 - 5 * un')) = ud (5 * (e + sh) + 2) := by rw [if_pos (by omega), show 5 * e + 2 + 5 * sh = 5 * (e + sh) + 2 by omega]
        have t3 : (if 5 * e + 3 < 5 * un' then ud (5 * e + 3 + 5 * sh) else rd (5 * e + 3 - 5 * un')) = ud (5 * (e + sh) + 3) := by rw [if_pos (by omega), show 5 * e + 3 + 5 * sh = 5 * (e + sh) + 3 by omega]
        have t4 : (if 5 * e + 4 < 5 * un' then ud (5 * e + 4 + 5 * sh) else rd (5 * e + 4 - 5 * un')) = ud (5 * (e + sh) + 4) := by rw [if_pos (by omega), show 5 * e + 4 + 5 * sh = 5 * (e + sh) + 4 by omega]
        rw [t0, t1, t2, t3, t4]
        exact k4
      · have z := q3 (2 + j) (by omega)
        rw [if_pos (by omega), q2 j hj, show 60 + 7 * e + j = 58 + 7 * e + (2 + j) by omega, z, show 58 + 7 * (e + sh) + (2 + j) = 60 + 7 * (e + sh) + j by omega, show 5 * e + j + 5 * sh = 5 * (e + sh) + j by omega]
        exact k5 j hj
  · have he2 : e = un' := by omega
    subst he2
    simp only [if_neg hl, if_pos (Nat.le_refl e), if_neg (show ¬ e + 1 ≤ e by omega), hs, a4]
    refine ⟨hc, hk1, hk2, ht, fun hb => ?_⟩
    obtain ⟨k1, k2, k3, k4, k5⟩ := hf hb
    refine ⟨k1, k2, k3, ?_, fun j hj => ?_⟩
    · unfold okL at k4 ⊢
      dsimp only
      rw [if_neg (by omega), if_neg (by omega), if_neg (by omega), if_neg (by omega), if_neg (by omega), show 5 * e - 5 * e = 0 by omega, show 5 * e + 1 - 5 * e = 1 by omega, show 5 * e + 2 - 5 * e = 2 by omega, show 5 * e + 3 - 5 * e = 3 by omega, show 5 * e + 4 - 5 * e = 4 by omega]
      exact k4
    · rw [if_neg (by omega), show 5 * e + j - 5 * e = j by omega]
      exact k5 j hj
/-- the class loses the oldest of six -/
theorem x_lose {un : Nat} (h : un ≤ 6) (up pl : Nat → Int32) : ∃ (un' sh : Nat) (up' pl' : Nat → Int32), un' + sh = un ∧ un' ≤ 5 ∧ un' = (if un = 6 then 5 else un) ∧ f_X2_loseOldestIfFull (nI 6) (nI un) up pl = some (nI un', up', pl') ∧ ∀ e, e < un' → pl' e = pl (e + sh) ∧ ∀ j, j < 5 → up' (5 * e + j) = up (5 * (e + sh) + j) := by
  unfold f_X2_loseOldestIfFull f_X6_isFull f_X6_removeAt
  by_cases h6 : un = 6
  · subst h6
    refine ⟨5, 1, va_cpy up up 5 0 25, va_cpy pl pl 1 0 5, rfl, by omega, rfl, ?_, fun e he => ⟨?_, fun j hj => ?_⟩⟩
    · have hh := x_has (cnt := 6) (k := 0) (by decide) (by decide)
      (repeat (simp (disch := omega) only [li_0, li_1, li_2, li_3, li_4, li_5, li_6, li_7, li_8, li_9, li_10, li_11, li_12, li_13, li_14, li_15, li_16, li_17, li_18, li_19, li_20, li_21, li_22, li_23, li_24, li_25, li_26, li_27, li_28, li_29, li_30, li_31, li_32, li_34, li_35, li_40, li_41, li_45, li_48, li_49, li_50, li_57, li_58, li_59, li_60, li_61, li_64, li_65, li_97, li_99, li_100, li_115, li_116, li_121, li_122, li_200, li_255, li_256, li_300, li_999, li_1000, li_12345, li_65535, li_1103515245, if_true, if_false, nI_add, pk_mul, pk_sub, s_div, s_rem, s_cl, p_le_t, p_le_f, p_lt_t, p_lt_f, p_eq_t, p_eq_f, bd1_s, bd2_s, bd3_s, nm_s, gd_t, gd_in, gd_nz, gd_bz0, gd_bz1, gd_cp, hh]))
      try rfl
    · rw [pk_cpy_in (by omega) (by omega), show 1 + (e - 0) = e + 1 by omega]
    · rw [pk_cpy_in (by omega) (by omega), show 5 + (5 * e + j - 0) = 5 * (e + 1) + j by omega]
  · refine ⟨un, 0, up, pl, rfl, by omega, by rw [if_neg h6], ?_, fun e he => ⟨rfl, fun j hj => rfl⟩⟩
    (repeat (simp (disch := omega) only [li_0, li_1, li_2, li_3, li_4, li_5, li_6, li_7, li_8, li_9, li_10, li_11, li_12, li_13, li_14, li_15, li_16, li_17, li_18, li_19, li_20, li_21, li_22, li_23, li_24, li_25, li_26, li_27, li_28, li_29, li_30, li_31, li_32, li_34, li_35, li_40, li_41, li_45, li_48, li_49, li_50, li_57, li_58, li_59, li_60, li_61, li_64, li_65, li_97, li_99, li_100, li_115, li_116, li_121, li_122, li_200, li_255, li_256, li_300, li_999, li_1000, li_12345, li_65535, li_1103515245, if_true, if_false, nI_add, pk_mul, pk_sub, s_div, s_rem, s_cl, p_le_t, p_le_f, p_lt_t, p_lt_f, p_eq_t, p_eq_f, bd1_s, bd2_s, bd3_s, nm_s, gd_t, gd_in, gd_nz, gd_bz0, gd_bz1, gd_cp]))
def add5 (f : Nat → Int32) (c : Nat) (g1 g2 g3 g4 g5 : Int32) : Nat → Int32 := upd (upd (upd (upd (upd f (c * 5 + 0) g1) (c * 5 + 1) g2) (c * 5 + 2) g3) (c * 5 + 3) g4) (c * 5 + 4) g5
theorem x_add {most c : Nat} (h : c < most) (h2 : most ≤ 10) (f : Nat → Int32) (g1 g2 g3 g4 g5 : Int32) : f_X6_add (nI most) (nI c) f g1 g2 g3 g4 g5 = some (nI (c + 1), add5 f c g1 g2 g3 g4 g5) := by
  unfold f_X6_add f_X6_isFull add5
  (repeat (simp (disch := omega) only [li_0, li_1, li_2, li_3, li_4, li_5, li_6, li_7, li_8, li_9, li_10, li_11, li_12, li_13, li_14, li_15, li_16, li_17, li_18, li_19, li_20, li_21, li_22, li_23, li_24, li_25, li_26, li_27, li_28, li_29, li_30, li_31, li_32, li_34, li_35, li_40, li_41, li_45, li_48, li_49, li_50, li_57, li_58, li_59, li_60, li_61, li_64, li_65, li_97, li_99, li_100, li_115, li_116, li_121, li_122, li_200, li_255, li_256, li_300, li_999, li_1000, li_12345, li_65535, li_1103515245, if_true, if_false, nI_add, pk_mul, pk_sub, s_div, s_rem, s_cl, p_le_t, p_le_f, p_lt_t, p_lt_f, p_eq_t, p_eq_f, bd1_s, bd2_s, bd3_s, nm_s, gd_t, gd_in, gd_nz, gd_bz0, gd_bz1, gd_cp]))
theorem add5_lo {f : Nat → Int32} {c j : Nat} {g1 g2 g3 g4 g5 : Int32} (h : j < 5 * c) : add5 f c g1 g2 g3 g4 g5 j = f j := by
  unfold add5
  rw [pk_un (by omega), pk_un (by omega), pk_un (by omega), pk_un (by omega), pk_un (by omega)]
theorem add5_0 {f : Nat → Int32} {c : Nat} {g1 g2 g3 g4 g5 : Int32} : add5 f c g1 g2 g3 g4 g5 (5 * c) = g1 := by
  unfold add5
  rw [pk_un (by omega), pk_un (by omega), pk_un (by omega), pk_un (by omega), show 5 * c = c * 5 + 0 by omega, pk_us]
theorem add5_1 {f : Nat → Int32} {c : Nat} {g1 g2 g3 g4 g5 : Int32} : add5 f c g1 g2 g3 g4 g5 (5 * c + 1) = g2 := by
  unfold add5
  rw [pk_un (by omega), pk_un (by omega), pk_un (by omega), show 5 * c + 1 = c * 5 + 1 by omega, pk_us]
theorem add5_2 {f : Nat → Int32} {c : Nat} {g1 g2 g3 g4 g5 : Int32} : add5 f c g1 g2 g3 g4 g5 (5 * c + 2) = g3 := by
  unfold add5
  rw [pk_un (by omega), pk_un (by omega), show 5 * c + 2 = c * 5 + 2 by omega, pk_us]
theorem add5_3 {f : Nat → Int32} {c : Nat} {g1 g2 g3 g4 g5 : Int32} : add5 f c g1 g2 g3 g4 g5 (5 * c + 3) = g4 := by
  unfold add5
  rw [pk_un (by omega), show 5 * c + 3 = c * 5 + 3 by omega, pk_us]
theorem add5_4 {f : Nat → Int32} {c : Nat} {g1 g2 g3 g4 g5 : Int32} : add5 f c g1 g2 g3 g4 g5 (5 * c + 4) = g5 := by
  unfold add5
  rw [show 5 * c + 4 = c * 5 + 4 by omega, pk_us]
/-- the reference's notes -/
theorem m_notes85 {k at_ : Nat} (hk : k ≤ 9) (hat : 58 ≤ at_) (hat2 : at_ + 7 ≤ 100) : ∀ (r c nn : Nat) (s : Nat → Int32), c + r = 5 → r < nn → ∃ s' : Nat → Int32, f_X9_notes_b85 (nI k) (nI at_) nn (nI c) s = some s' ∧ s' 57 = s 57 + nI 1 ∧ (∀ j, j ≠ 57 → s' j = if at_ + 2 + c ≤ j ∧ j < at_ + 7 then s (7 + 5 * k + (j - (at_ + 2))) else s j) := by
  intro r
  induction r with
  | zero =>
    intro c nn s hc hnn
    obtain ⟨m, rfl⟩ : ∃ m, nn = m + 1 := ⟨nn - 1, by omega⟩
    rw [f_X9_notes_b85]
    refine ⟨upd s 57 (s 57 + nI 1), by (repeat (simp (disch := omega) only [li_0, li_1, li_2, li_3, li_4, li_5, li_6, li_7, li_8, li_9, li_10, li_11, li_12, li_13, li_14, li_15, li_16, li_17, li_18, li_19, li_20, li_21, li_22, li_23, li_24, li_25, li_26, li_27, li_28, li_29, li_30, li_31, li_32, li_34, li_35, li_40, li_41, li_45, li_48, li_49, li_50, li_57, li_58, li_59, li_60, li_61, li_64, li_65, li_97, li_99, li_100, li_115, li_116, li_121, li_122, li_200, li_255, li_256, li_300, li_999, li_1000, li_12345, li_65535, li_1103515245, if_true, if_false, nI_add, pk_mul, pk_sub, s_div, s_rem, s_cl, p_le_t, p_le_f, p_lt_t, p_lt_f, p_eq_t, p_eq_f, bd1_s, bd2_s, bd3_s, nm_s, gd_t, gd_in, gd_nz, gd_bz0, gd_bz1, gd_cp])), pk_us, fun j hj => ?_⟩
    rw [pk_un hj, if_neg (by omega)]
  | succ r ih =>
    intro c nn s hc hnn
    obtain ⟨m, rfl⟩ : ∃ m, nn = m + 1 := ⟨nn - 1, by omega⟩
    rw [f_X9_notes_b85]
    obtain ⟨s', h1, h2, h3⟩ := ih (c + 1) m (upd s (at_ + 2 + c) (s (7 + 5 * k + c))) (by omega) (by omega)
    refine ⟨s', by (repeat (simp (disch := omega) only [li_0, li_1, li_2, li_3, li_4, li_5, li_6, li_7, li_8, li_9, li_10, li_11, li_12, li_13, li_14, li_15, li_16, li_17, li_18, li_19, li_20, li_21, li_22, li_23, li_24, li_25, li_26, li_27, li_28, li_29, li_30, li_31, li_32, li_34, li_35, li_40, li_41, li_45, li_48, li_49, li_50, li_57, li_58, li_59, li_60, li_61, li_64, li_65, li_97, li_99, li_100, li_115, li_116, li_121, li_122, li_200, li_255, li_256, li_300, li_999, li_1000, li_12345, li_65535, li_1103515245, if_true, if_false, nI_add, pk_mul, pk_sub, s_div, s_rem, s_cl, p_le_t, p_le_f, p_lt_t, p_lt_f, p_eq_t, p_eq_f, bd1_s, bd2_s, bd3_s, nm_s, gd_t, gd_in, gd_nz, gd_bz0, gd_bz1, gd_cp, h1])), by rw [h2, pk_un (by omega)], fun j hj => ?_⟩
    rw [h3 j hj]
    by_cases h4 : at_ + 2 + (c + 1) ≤ j ∧ j < at_ + 7
    · rw [if_pos h4, if_pos (by omega), pk_un (by omega)]
    · rw [if_neg h4]
      by_cases h5 : j = at_ + 2 + c
      · subst h5
        rw [pk_us, if_pos (by omega), show at_ + 2 + c - (at_ + 2) = c by omega]
      · rw [pk_un h5, if_neg (by omega)]
set_option maxRecDepth 100000 in
theorem m_notes52 {k un : Nat} (hk : k ≤ 9) (hu : un ≤ 5) (s : Nat → Int32) (h57 : s 57 = nI un) (kd : Int32) : ∃ s' : Nat → Int32, f_X9_notes_b52 kd (nI k) s = some s' ∧ s' 57 = nI (un + 1) ∧ s' (58 + 7 * un) = kd ∧ s' (59 + 7 * un) = nI k ∧ (∀ j, j < 5 → s' (60 + 7 * un + j) = s (7 + 5 * k + j)) ∧ ∀ j, j ≠ 57 → j < 58 + 7 * un → s' j = s j := by
  unfold f_X9_notes_b52
  obtain ⟨s', h1, h2, h3⟩ := m_notes85 (k := k) (at_ := 58 + 7 * un) hk (by omega) (by omega) 5 0 zF (upd (upd s (58 + 7 * un) kd) (58 + 7 * un + 1) (nI k)) (by omega) (by unfold zF; omega)
  refine ⟨s', by (repeat (simp (disch := omega) only [li_0, li_1, li_2, li_3, li_4, li_5, li_6, li_7, li_8, li_9, li_10, li_11, li_12, li_13, li_14, li_15, li_16, li_17, li_18, li_19, li_20, li_21, li_22, li_23, li_24, li_25, li_26, li_27, li_28, li_29, li_30, li_31, li_32, li_34, li_35, li_40, li_41, li_45, li_48, li_49, li_50, li_57, li_58, li_59, li_60, li_61, li_64, li_65, li_97, li_99, li_100, li_115, li_116, li_121, li_122, li_200, li_255, li_256, li_300, li_999, li_1000, li_12345, li_65535, li_1103515245, if_true, if_false, nI_add, pk_mul, pk_sub, s_div, s_rem, s_cl, p_le_t, p_le_f, p_lt_t, p_lt_f, p_eq_t, p_eq_f, bd1_s, bd2_s, bd3_s, nm_s, gd_t, gd_in, gd_nz, gd_bz0, gd_bz1, gd_cp, h57, h1])), ?_, ?_, ?_, fun j hj => ?_, fun j hj hj2 => ?_⟩
  · rw [h2, pk_un (by omega), pk_un (by omega), h57, nI_add]
  · rw [h3 _ (by omega), if_neg (by omega), pk_un (by omega), pk_us]
  · rw [h3 _ (by omega), if_neg (by omega), show 59 + 7 * un = 58 + 7 * un + 1 by omega, pk_us]
  · rw [h3 _ (by omega), if_pos (by omega), pk_un (by omega), pk_un (by omega), show 60 + 7 * un + j - (58 + 7 * un + 2) = j by omega]
  · rw [h3 _ hj, if_neg (by omega), pk_un (by omega), pk_un (by omega)]
theorem m_notes14 {k : Nat} (hk : k ≤ 9) (kd : Int32) : ∀ (r c nn : Nat) (s : Nat → Int32), c + r = 35 → r < nn → ∃ s1 : Nat → Int32, f_X9_notes_b14 kd (nI k) nn (nI c) s = f_X9_notes_b52 kd (nI k) s1 ∧ s1 57 = nI 5 ∧ ∀ j, j ≠ 57 → s1 j = if 58 + c ≤ j ∧ j < 93 then s (j + 7) else s j := by
  intro r
  induction r with
  | zero =>
    intro c nn s hc hnn
    obtain ⟨m, rfl⟩ : ∃ m, nn = m + 1 := ⟨nn - 1, by omega⟩
    rw [f_X9_notes_b14]
    refine ⟨upd s 57 (nI 5), by (repeat (simp (disch := omega) only [li_0, li_1, li_2, li_3, li_4, li_5, li_6, li_7, li_8, li_9, li_10, li_11, li_12, li_13, li_14, li_15, li_16, li_17, li_18, li_19, li_20, li_21, li_22, li_23, li_24, li_25, li_26, li_27, li_28, li_29, li_30, li_31, li_32, li_34, li_35, li_40, li_41, li_45, li_48, li_49, li_50, li_57, li_58, li_59, li_60, li_61, li_64, li_65, li_97, li_99, li_100, li_115, li_116, li_121, li_122, li_200, li_255, li_256, li_300, li_999, li_1000, li_12345, li_65535, li_1103515245, if_true, if_false, nI_add, pk_mul, pk_sub, s_div, s_rem, s_cl, p_le_t, p_le_f, p_lt_t, p_lt_f, p_eq_t, p_eq_f, bd1_s, bd2_s, bd3_s, nm_s, gd_t, gd_in, gd_nz, gd_bz0, gd_bz1, gd_cp])), pk_us, fun j hj => ?_⟩
    rw [pk_un hj, if_neg (by omega)]
  | succ r ih =>
    intro c nn s hc hnn
    obtain ⟨m, rfl⟩ : ∃ m, nn = m + 1 := ⟨nn - 1, by omega⟩
    rw [f_X9_notes_b14]
    obtain ⟨s1, h1, h2, h3⟩ := ih (c + 1) m (upd s (58 + c) (s (65 + c))) (by omega) (by omega)
    refine ⟨s1, by (repeat (simp (disch := omega) only [li_0, li_1, li_2, li_3, li_4, li_5, li_6, li_7, li_8, li_9, li_10, li_11, li_12, li_13, li_14, li_15, li_16, li_17, li_18, li_19, li_20, li_21, li_22, li_23, li_24, li_25, li_26, li_27, li_28, li_29, li_30, li_31, li_32, li_34, li_35, li_40, li_41, li_45, li_48, li_49, li_50, li_57, li_58, li_59, li_60, li_61, li_64, li_65, li_97, li_99, li_100, li_115, li_116, li_121, li_122, li_200, li_255, li_256, li_300, li_999, li_1000, li_12345, li_65535, li_1103515245, if_true, if_false, nI_add, pk_mul, pk_sub, s_div, s_rem, s_cl, p_le_t, p_le_f, p_lt_t, p_lt_f, p_eq_t, p_eq_f, bd1_s, bd2_s, bd3_s, nm_s, gd_t, gd_in, gd_nz, gd_bz0, gd_bz1, gd_cp, h1])), h2, fun j hj => ?_⟩
    rw [h3 j hj]
    by_cases h4 : 58 + (c + 1) ≤ j ∧ j < 93
    · rw [if_pos h4, if_pos (by omega), pk_un (by omega)]
    · rw [if_neg h4]
      by_cases h5 : j = 58 + c
      · subst h5
        rw [pk_us, if_pos (by omega), show 58 + c + 7 = 65 + c by omega]
      · rw [pk_un h5, if_neg (by omega)]
theorem m_notes {k un : Nat} (hk : k ≤ 9) (hu : un ≤ 6) (s : Nat → Int32) (h57 : s 57 = nI un) (kd : Int32) : ∃ (un' sh : Nat) (s' : Nat → Int32), un' + sh = un ∧ un' ≤ 5 ∧ un' = (if un = 6 then 5 else un) ∧ f_X9_notes s kd (nI k) = some s' ∧ s' 57 = nI (un' + 1) ∧ s' (58 + 7 * un') = kd ∧ s' (59 + 7 * un') = nI k ∧ (∀ j, j < 5 → s' (60 + 7 * un' + j) = s (7 + 5 * k + j)) ∧ (∀ j, j < 57 → s' j = s j) ∧ ∀ e, e < un' → ∀ j, j < 7 → s' (58 + 7 * e + j) = s (58 + 7 * (e + sh) + j) := by
  unfold f_X9_notes
  by_cases h6 : un = 6
  · subst h6
    obtain ⟨s1, h1, h2, h3⟩ := m_notes14 hk kd 35 0 zF s (by omega) (by unfold zF; omega)
    obtain ⟨s', g1, g2, g3, g4, g5, g6⟩ := m_notes52 hk (show 5 ≤ 5 by omega) s1 h2 kd
    refine ⟨5, 1, s', rfl, by omega, rfl, by (repeat (simp (disch := omega) only [li_0, li_1, li_2, li_3, li_4, li_5, li_6, li_7, li_8, li_9, li_10, li_11, li_12, li_13, li_14, li_15, li_16, li_17, li_18, li_19, li_20, li_21, li_22, li_23, li_24, li_25, li_26, li_27, li_28, li_29, li_30, li_31, li_32, li_34, li_35, li_40, li_41, li_45, li_48, li_49, li_50, li_57, li_58, li_59, li_60, li_61, li_64, li_65, li_97, li_99, li_100, li_115, li_116, li_121, li_122, li_200, li_255, li_256, li_300, li_999, li_1000, li_12345, li_65535, li_1103515245, if_true, if_false, nI_add, pk_mul, pk_sub, s_div, s_rem, s_cl, p_le_t, p_le_f, p_lt_t, p_lt_f, p_eq_t, p_eq_f, bd1_s, bd2_s, bd3_s, nm_s, gd_t, gd_in, gd_nz, gd_bz0, gd_bz1, gd_cp, h57, h1, g1])), g2, g3, g4, fun j hj => ?_, fun j hj => ?_, fun e he j hj => ?_⟩
    · rw [g5 j hj, h3 _ (by omega), if_neg (by omega)]
    · rw [g6 j (by omega) (by omega), h3 _ (by omega), if_neg (by omega)]
    · rw [g6 _ (by omega) (by omega), h3 _ (by omega), if_pos (by omega), show 58 + 7 * e + j + 7 = 58 + 7 * (e + 1) + j by omega]
  · obtain ⟨s', g1, g2, g3, g4, g5, g6⟩ := m_notes52 hk (show un ≤ 5 by omega) s h57 kd
    refine ⟨un, 0, s', rfl, by omega, by rw [if_neg h6], by (repeat (simp (disch := omega) only [li_0, li_1, li_2, li_3, li_4, li_5, li_6, li_7, li_8, li_9, li_10, li_11, li_12, li_13, li_14, li_15, li_16, li_17, li_18, li_19, li_20, li_21, li_22, li_23, li_24, li_25, li_26, li_27, li_28, li_29, li_30, li_31, li_32, li_34, li_35, li_40, li_41, li_45, li_48, li_49, li_50, li_57, li_58, li_59, li_60, li_61, li_64, li_65, li_97, li_99, li_100, li_115, li_116, li_121, li_122, li_200, li_255, li_256, li_300, li_999, li_1000, li_12345, li_65535, li_1103515245, if_true, if_false, nI_add, pk_mul, pk_sub, s_div, s_rem, s_cl, p_le_t, p_le_f, p_lt_t, p_lt_f, p_eq_t, p_eq_f, bd1_s, bd2_s, bd3_s, nm_s, gd_t, gd_in, gd_nz, gd_bz0, gd_bz1, gd_cp, h57, g1])), g2, g3, g4, g5, fun j hj => g6 j (by omega) (by omega), fun e he j hj => ?_⟩
    exact g6 _ (by omega) (by omega)
