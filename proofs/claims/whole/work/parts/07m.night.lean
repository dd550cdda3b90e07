/-! night -/
def bri (n cnt : Nat) (ld sa sp sb : Nat → Nat) (d c t : Nat) : Nat → Nat → Nat
  | 0, _ => 0
  | r + 1, j => (if sqN n (sa j) (sp j) d = c then 0 else if own n ld (sqN n (sa j) (sp j) d) d cnt 0 = nI t then sb j else 0) + bri n cnt ld sa sp sb d c t r (j + 1)
theorem own_cases {n nt cnt q d : Nat} {ld : Nat → Nat} {lsize : Int32} {lp s : Nat → Int32} (h : gL n nt cnt ld lsize lp s) : ∀ r k, k + r ≤ cnt → own n ld q d r k = -9 ∨ ∃ t', t' < nt ∧ own n ld q d r k = nI t' := by
  intro r
  induction r with
  | zero => intro k hk; exact Or.inl rfl
  | succ r ih =>
    intro k hk
    rw [own]
    by_cases hc : cov n ld k q d = true
    · rw [if_pos hc]
      exact Or.inr ⟨ld (5 * k), (h.2.2.2.2 k (by omega)).1, rfl⟩
    · rw [if_neg hc]
      exact ih (k + 1) (by omega)
theorem ne_m9 : ∀ t, t < 4 → (nI t = -nI 9) = False := by
  intro t ht
  apply eq_false
  have : ∀ t, t < 4 → ¬ nI t = -nI 9 := by decide +kernel
  exact this t ht
theorem x_bri {n ns nt cnt : Nat} {sa sp sb ld : Nat → Nat} {sq st te : Int32} {starts paces brights : Nat → Int32} {msq mst mte : Int32} {ms : Nat → Int32} {lsize : Int32} {lp s : Nat → Int32} (hS : gS n ns nt sa sp sb sq st te starts paces brights msq mst mte ms) (hL : gL n nt cnt ld lsize lp s) {d c t : Nat} (hd : d < 1000000) (hc : c < n) : ∀ (r j nn a : Nat), j + r = ns → r < nn → f_X8_broughtTo_b6 (nI n) (nI ns) paces starts (nI cnt) lp brights (nI t) (nI d) (nI c) nn (nI a) (nI j) = some (nI (a + bri n cnt ld sa sp sb d c t r j)) := by
  obtain ⟨b1, b2, b3, b4, -, -, -, -, -, -, hst⟩ := id hS
  intro r
  induction r with
  | zero =>
    intro j nn a hj hnn
    obtain ⟨m, rfl⟩ : ∃ m, nn = m + 1 := ⟨nn - 1, by omega⟩
    rw [f_X8_broughtTo_b6, bri]
    (repeat (simp (disch := omega) only [li_0, li_1, li_2, li_3, li_4, li_5, li_6, li_7, li_8, li_9, li_10, li_11, li_12, li_13, li_14, li_15, li_16, li_17, li_18, li_19, li_20, li_21, li_22, li_23, li_24, li_25, li_26, li_27, li_28, li_29, li_30, li_31, li_32, li_34, li_35, li_40, li_41, li_45, li_48, li_49, li_50, li_57, li_58, li_59, li_60, li_61, li_64, li_65, li_97, li_99, li_100, li_115, li_116, li_121, li_122, li_200, li_255, li_256, li_300, li_999, li_1000, li_12345, li_65535, li_1103515245, if_true, if_false, nI_add, pk_mul, pk_sub, s_div, s_rem, s_cl, p_le_t, p_le_f, p_lt_t, p_lt_f, p_eq_t, p_eq_f, bd1_s, bd2_s, bd3_s, nm_s, gd_t, gd_in, gd_nz, gd_bz0, gd_bz1, gd_cp, Nat.add_zero]))
  | succ r ih =>
    intro j nn a hj hnn
    obtain ⟨m, rfl⟩ : ∃ m, nn = m + 1 := ⟨nn - 1, by omega⟩
    obtain ⟨a1, a2, a3, a4, a5, a6, a7, a8, a9, a10⟩ := hst j (by omega)
    have e1 := x_squareOf hS (show j < ns by omega) hd
    have hq := sqN_lt (n := n) (a := sa j) (p := sp j) (d := d) a1
    have e2 := x_ownerOf b2 hL hq hd
    have i0 := ih (j + 1) m a (by omega) (by omega)
    have i1 := ih (j + 1) m (a + sb j) (by omega) (by omega)
    rw [f_X8_broughtTo_b6, bri]
    unfold f_X8_broughtTo_b62
    by_cases h1 : sqN n (sa j) (sp j) d = c
    · rw [if_pos h1]
      (repeat (simp (disch := omega) only [li_0, li_1, li_2, li_3, li_4, li_5, li_6, li_7, li_8, li_9, li_10, li_11, li_12, li_13, li_14, li_15, li_16, li_17, li_18, li_19, li_20, li_21, li_22, li_23, li_24, li_25, li_26, li_27, li_28, li_29, li_30, li_31, li_32, li_34, li_35, li_40, li_41, li_45, li_48, li_49, li_50, li_57, li_58, li_59, li_60, li_61, li_64, li_65, li_97, li_99, li_100, li_115, li_116, li_121, li_122, li_200, li_255, li_256, li_300, li_999, li_1000, li_12345, li_65535, li_1103515245, if_true, if_false, nI_add, pk_mul, pk_sub, s_div, s_rem, s_cl, p_le_t, p_le_f, p_lt_t, p_lt_f, p_eq_t, p_eq_f, bd1_s, bd2_s, bd3_s, nm_s, gd_t, gd_in, gd_nz, gd_bz0, gd_bz1, gd_cp, e1, i0, Nat.zero_add]))
    · rw [if_neg h1]
      by_cases h2 : own n ld (sqN n (sa j) (sp j) d) d cnt 0 = nI t
      · rw [if_pos h2]
        (repeat (simp (disch := omega) only [li_0, li_1, li_2, li_3, li_4, li_5, li_6, li_7, li_8, li_9, li_10, li_11, li_12, li_13, li_14, li_15, li_16, li_17, li_18, li_19, li_20, li_21, li_22, li_23, li_24, li_25, li_26, li_27, li_28, li_29, li_30, li_31, li_32, li_34, li_35, li_40, li_41, li_45, li_48, li_49, li_50, li_57, li_58, li_59, li_60, li_61, li_64, li_65, li_97, li_99, li_100, li_115, li_116, li_121, li_122, li_200, li_255, li_256, li_300, li_999, li_1000, li_12345, li_65535, li_1103515245, if_true, if_false, nI_add, pk_mul, pk_sub, s_div, s_rem, s_cl, p_le_t, p_le_f, p_lt_t, p_lt_f, p_eq_t, p_eq_f, bd1_s, bd2_s, bd3_s, nm_s, gd_t, gd_in, gd_nz, gd_bz0, gd_bz1, gd_cp, e1, e2, h2, a7, i1, Nat.add_assoc]))
      · rw [if_neg h2]
        (repeat (simp (disch := omega) only [li_0, li_1, li_2, li_3, li_4, li_5, li_6, li_7, li_8, li_9, li_10, li_11, li_12, li_13, li_14, li_15, li_16, li_17, li_18, li_19, li_20, li_21, li_22, li_23, li_24, li_25, li_26, li_27, li_28, li_29, li_30, li_31, li_32, li_34, li_35, li_40, li_41, li_45, li_48, li_49, li_50, li_57, li_58, li_59, li_60, li_61, li_64, li_65, li_97, li_99, li_100, li_115, li_116, li_121, li_122, li_200, li_255, li_256, li_300, li_999, li_1000, li_12345, li_65535, li_1103515245, if_true, if_false, nI_add, pk_mul, pk_sub, s_div, s_rem, s_cl, p_le_t, p_le_f, p_lt_t, p_lt_f, p_eq_t, p_eq_f, bd1_s, bd2_s, bd3_s, nm_s, gd_t, gd_in, gd_nz, gd_bz0, gd_bz1, gd_cp, e1, e2, h2, i0, Nat.zero_add]))
theorem x_broughtTo {n ns nt cnt : Nat} {sa sp sb ld : Nat → Nat} {sq st te : Int32} {starts paces brights : Nat → Int32} {msq mst mte : Int32} {ms : Nat → Int32} {lsize : Int32} {lp s : Nat → Int32} (hS : gS n ns nt sa sp sb sq st te starts paces brights msq mst mte ms) (hL : gL n nt cnt ld lsize lp s) {d c t : Nat} (hd : d < 1000000) (hc : c < n) : f_X8_broughtTo (nI n) (nI ns) paces starts (nI cnt) lp brights (nI t) (nI d) (nI c) = some (nI (bri n cnt ld sa sp sb d c t ns 0)) := by
  have h := x_bri hS hL (t := t) hd hc ns 0 zF 0 (by omega) (by have := hS.2.2.1; unfold zF; omega)
  rw [Nat.zero_add] at h
  exact h
theorem x_night56 {n ns nt cnt : Nat} {sa sp sb ld : Nat → Nat} {sq st te : Int32} {starts paces brights : Nat → Int32} {msq mst mte : Int32} {ms : Nat → Int32} {lsize : Int32} {lp s : Nat → Int32} (hS : gS n ns nt sa sp sb sq st te starts paces brights msq mst mte ms) (hL : gL n nt cnt ld lsize lp s) {d c : Nat} (hd : d < 1000000) (hc : c < n) (lot : Int32) : ∀ (r t nn : Nat) (ps : Nat → Int32), t + r = nt → r < nn → ∃ ps', f_X8_night_b56 (nI n) (nI ns) (nI nt) paces starts (nI cnt) lp brights (nI c) (nI d) lot nn (nI t) ps = some (nI c, nI (d + 1), lot, ps') ∧ ∀ i, i < nt → ps' i = if t ≤ i then ps i + nI (bri n cnt ld sa sp sb d c i ns 0) else ps i := by
  obtain ⟨b1, b2, b3, b4, -, -, -, -, -, -, hst⟩ := id hS
  intro r
  induction r with
  | zero =>
    intro t nn ps ht hnn
    obtain ⟨m, rfl⟩ : ∃ m, nn = m + 1 := ⟨nn - 1, by omega⟩
    refine ⟨ps, ?_, fun i hi => by rw [if_neg (by omega)]⟩
    rw [f_X8_night_b56]
    (repeat (simp (disch := omega) only [li_0, li_1, li_2, li_3, li_4, li_5, li_6, li_7, li_8, li_9, li_10, li_11, li_12, li_13, li_14, li_15, li_16, li_17, li_18, li_19, li_20, li_21, li_22, li_23, li_24, li_25, li_26, li_27, li_28, li_29, li_30, li_31, li_32, li_34, li_35, li_40, li_41, li_45, li_48, li_49, li_50, li_57, li_58, li_59, li_60, li_61, li_64, li_65, li_97, li_99, li_100, li_115, li_116, li_121, li_122, li_200, li_255, li_256, li_300, li_999, li_1000, li_12345, li_65535, li_1103515245, if_true, if_false, nI_add, pk_mul, pk_sub, s_div, s_rem, s_cl, p_le_t, p_le_f, p_lt_t, p_lt_f, p_eq_t, p_eq_f, bd1_s, bd2_s, bd3_s, nm_s, gd_t, gd_in, gd_nz, gd_bz0, gd_bz1, gd_cp]))
  | succ r ih =>
    intro t nn ps ht hnn
    obtain ⟨m, rfl⟩ : ∃ m, nn = m + 1 := ⟨nn - 1, by omega⟩
    have e1 := x_broughtTo hS hL (t := t) hd hc
    obtain ⟨ps', h1, h2⟩ := ih (t + 1) m (upd ps t (ps t + nI (bri n cnt ld sa sp sb d c t ns 0))) (by omega) (by omega)
    refine ⟨ps', ?_, fun i hi => ?_⟩
    · rw [f_X8_night_b56]
      (repeat (simp (disch := omega) only [li_0, li_1, li_2, li_3, li_4, li_5, li_6, li_7, li_8, li_9, li_10, li_11, li_12, li_13, li_14, li_15, li_16, li_17, li_18, li_19, li_20, li_21, li_22, li_23, li_24, li_25, li_26, li_27, li_28, li_29, li_30, li_31, li_32, li_34, li_35, li_40, li_41, li_45, li_48, li_49, li_50, li_57, li_58, li_59, li_60, li_61, li_64, li_65, li_97, li_99, li_100, li_115, li_116, li_121, li_122, li_200, li_255, li_256, li_300, li_999, li_1000, li_12345, li_65535, li_1103515245, if_true, if_false, nI_add, pk_mul, pk_sub, s_div, s_rem, s_cl, p_le_t, p_le_f, p_lt_t, p_lt_f, p_eq_t, p_eq_f, bd1_s, bd2_s, bd3_s, nm_s, gd_t, gd_in, gd_nz, gd_bz0, gd_bz1, gd_cp, e1, h1]))
    · rw [h2 i hi]
      by_cases hi1 : i = t
      · subst hi1
        rw [if_neg (by omega), if_pos (by omega), pk_us]
      · rw [pk_un hi1]
        by_cases hi2 : t ≤ i
        · rw [if_pos (by omega), if_pos hi2]
        · rw [if_neg (by omega), if_neg hi2]
theorem m_night {n ns nt cnt : Nat} {sa sp sb ld : Nat → Nat} {sq st te : Int32} {starts paces brights : Nat → Int32} {msq mst mte : Int32} {ms : Nat → Int32} {lsize : Int32} {lp : Nat → Int32} (hS : gS n ns nt sa sp sb sq st te starts paces brights msq mst mte ms) {d c : Nat} (hd : d < 1000000) (hc : c < n) (th : Int32) : ∀ (r j nn : Nat) (s : Nat → Int32), gL n nt cnt ld lsize lp s → s 0 = nI d → j + r = ns → r < nn → ∃ s' : Nat → Int32, f_X9_night_b58 (nI n) (nI ns) ms (nI c) th nn (nI j) s = some (nI c, th, s') ∧ s' 0 = nI (d + 1) ∧ (∀ i, i < nt → s' (2 + i) = s (2 + i) + nI (bri n cnt ld sa sp sb d c i r j)) ∧ (∀ i, i = 1 ∨ 2 + nt ≤ i → s' i = s i) := by
  obtain ⟨b1, b2, b3, b4, -, -, -, -, -, -, hst⟩ := id hS
  intro r
  induction r with
  | zero =>
    intro j nn s hL h0 hj hnn
    obtain ⟨m, rfl⟩ : ∃ m, nn = m + 1 := ⟨nn - 1, by omega⟩
    refine ⟨upd s 0 (nI (d + 1)), ?_, pk_us, fun i hi => ?_, fun i hi => pk_un (by omega)⟩
    · rw [f_X9_night_b58]
      (repeat (simp (disch := omega) only [li_0, li_1, li_2, li_3, li_4, li_5, li_6, li_7, li_8, li_9, li_10, li_11, li_12, li_13, li_14, li_15, li_16, li_17, li_18, li_19, li_20, li_21, li_22, li_23, li_24, li_25, li_26, li_27, li_28, li_29, li_30, li_31, li_32, li_34, li_35, li_40, li_41, li_45, li_48, li_49, li_50, li_57, li_58, li_59, li_60, li_61, li_64, li_65, li_97, li_99, li_100, li_115, li_116, li_121, li_122, li_200, li_255, li_256, li_300, li_999, li_1000, li_12345, li_65535, li_1103515245, if_true, if_false, nI_add, pk_mul, pk_sub, s_div, s_rem, s_cl, p_le_t, p_le_f, p_lt_t, p_lt_f, p_eq_t, p_eq_f, bd1_s, bd2_s, bd3_s, nm_s, gd_t, gd_in, gd_nz, gd_bz0, gd_bz1, gd_cp, h0]))
    · rw [bri, add0, pk_un (by omega)]
  | succ r ih =>
    intro j nn s hL h0 hj hnn
    obtain ⟨m, rfl⟩ : ∃ m, nn = m + 1 := ⟨nn - 1, by omega⟩
    obtain ⟨a1, a2, a3, a4, a5, a6, a7, a8, a9, a10⟩ := hst j (by omega)
    have e1 := m_squareOf hS (show j < ns by omega) hd
    have hq := sqN_lt (n := n) (a := sa j) (p := sp j) (d := d) a1
    have e2 := m_whoseIs b2 hL hq hd
    by_cases h1 : sqN n (sa j) (sp j) d = c
    · obtain ⟨s', k1, k2, k3, k4⟩ := ih (j + 1) m s hL h0 (by omega) (by omega)
      refine ⟨s', ?_, k2, fun i hi => ?_, k4⟩
      · rw [f_X9_night_b58]
        unfold f_X9_night_b125
        (repeat (simp (disch := omega) only [li_0, li_1, li_2, li_3, li_4, li_5, li_6, li_7, li_8, li_9, li_10, li_11, li_12, li_13, li_14, li_15, li_16, li_17, li_18, li_19, li_20, li_21, li_22, li_23, li_24, li_25, li_26, li_27, li_28, li_29, li_30, li_31, li_32, li_34, li_35, li_40, li_41, li_45, li_48, li_49, li_50, li_57, li_58, li_59, li_60, li_61, li_64, li_65, li_97, li_99, li_100, li_115, li_116, li_121, li_122, li_200, li_255, li_256, li_300, li_999, li_1000, li_12345, li_65535, li_1103515245, if_true, if_false, nI_add, pk_mul, pk_sub, s_div, s_rem, s_cl, p_le_t, p_le_f, p_lt_t, p_lt_f, p_eq_t, p_eq_f, bd1_s, bd2_s, bd3_s, nm_s, gd_t, gd_in, gd_nz, gd_bz0, gd_bz1, gd_cp, h0, e1, e2, k1]))
      · rw [k3 i hi, bri, if_pos h1, Nat.zero_add]
    · rcases own_cases (q := sqN n (sa j) (sp j) d) (d := d) hL cnt 0 (by omega) with h2 | ⟨t', ht', h2⟩
      · obtain ⟨s', k1, k2, k3, k4⟩ := ih (j + 1) m s hL h0 (by omega) (by omega)
        refine ⟨s', ?_, k2, fun i hi => ?_, k4⟩
        · rw [f_X9_night_b58]
          unfold f_X9_night_b125
          (repeat (simp (disch := omega) only [li_0, li_1, li_2, li_3, li_4, li_5, li_6, li_7, li_8, li_9, li_10, li_11, li_12, li_13, li_14, li_15, li_16, li_17, li_18, li_19, li_20, li_21, li_22, li_23, li_24, li_25, li_26, li_27, li_28, li_29, li_30, li_31, li_32, li_34, li_35, li_40, li_41, li_45, li_48, li_49, li_50, li_57, li_58, li_59, li_60, li_61, li_64, li_65, li_97, li_99, li_100, li_115, li_116, li_121, li_122, li_200, li_255, li_256, li_300, li_999, li_1000, li_12345, li_65535, li_1103515245, if_true, if_false, nI_add, pk_mul, pk_sub, s_div, s_rem, s_cl, p_le_t, p_le_f, p_lt_t, p_lt_f, p_eq_t, p_eq_f, bd1_s, bd2_s, bd3_s, nm_s, gd_t, gd_in, gd_nz, gd_bz0, gd_bz1, gd_cp, h0, e1, e2, h2, k1]))
        · have h3 : ¬ own n ld (sqN n (sa j) (sp j) d) d cnt 0 = nI i := by
            rw [h2]
            intro e
            have := ne_m9 i (by omega)
            rw [← this]
            exact e.symm
          rw [k3 i hi, bri, if_neg h1, if_neg h3, Nat.zero_add]
      · have h9 := ne_m9 t' (by omega)
        obtain ⟨s', k1, k2, k3, k4⟩ := ih (j + 1) m (upd s (2 + t') (s (2 + t') + nI (sb j))) (gL_s hL (fun i hi _ => pk_un (by omega))) ((pk_un (by omega)).trans h0) (by omega) (by omega)
        refine ⟨s', ?_, k2, fun i hi => ?_, fun i hi => (k4 i hi).trans (pk_un (by omega))⟩
        · rw [f_X9_night_b58]
          unfold f_X9_night_b125
          (repeat (simp (disch := omega) only [li_0, li_1, li_2, li_3, li_4, li_5, li_6, li_7, li_8, li_9, li_10, li_11, li_12, li_13, li_14, li_15, li_16, li_17, li_18, li_19, li_20, li_21, li_22, li_23, li_24, li_25, li_26, li_27, li_28, li_29, li_30, li_31, li_32, li_34, li_35, li_40, li_41, li_45, li_48, li_49, li_50, li_57, li_58, li_59, li_60, li_61, li_64, li_65, li_97, li_99, li_100, li_115, li_116, li_121, li_122, li_200, li_255, li_256, li_300, li_999, li_1000, li_12345, li_65535, li_1103515245, if_true, if_false, nI_add, pk_mul, pk_sub, s_div, s_rem, s_cl, p_le_t, p_le_f, p_lt_t, p_lt_f, p_eq_t, p_eq_f, bd1_s, bd2_s, bd3_s, nm_s, gd_t, gd_in, gd_nz, gd_bz0, gd_bz1, gd_cp, h0, e1, e2, h2, h9, a10, k1]))
        · rw [k3 i hi, bri, if_neg h1, h2]
          by_cases hi1 : i = t'
          · subst hi1
            rw [if_pos rfl, pk_us, addN]
          · rw [if_neg (fun e => hi1 ((nI_eq (by omega) (by omega)).mp e).symm), Nat.zero_add, pk_un (by omega)]
theorem lotU (y : Int32) : ∃ u, u < 65536 ∧ zushr y (nI 16) = nI u ∧ (y >>> (nI 16 &&& nI 31)) &&& nI 65535 = nI u := by
  obtain ⟨u, hu, hx⟩ := pk_andE (y >>> (nI 16 &&& nI 31)) (m := 65535) 16 (by decide)
  rw [← li_65535]
  refine ⟨u, hu, ?_, hx⟩
  rw [← hx]
  apply b_ext
  intro i hi
  unfold zushr
  rw [b_ushr 16 (by decide), b_and, ← li_31, b_sshr 16 (by decide) y hi, b_65535]
  by_cases h : i < 16
  · rw [if_pos (by omega), decide_eq_true h, Bool.and_true]
  · rw [decide_eq_false h, Bool.and_false, b_big (by omega)]
theorem pm_night (v : Nat → Int32) (r : Nat → Nat → Int32) (t : Int64) (vm : Nat → Int32) (rm : Nat → Nat → Int32) (tm : Int64) (hI : Inv v r t vm rm tm)  : ∃ (R0 : Int32) (w0 : Int32) (w1 : Int32) (w2 : Nat → Int32) (z0 : Int32) (z1 : Nat → Int32), f_X8_night (v 15) (v 16) (v 5) (v 6) (v 7) (r 12) (r 3) (r 2) (v 18) (r 13) (r 4) = some (R0, w0, w1, w2) ∧ f_X9_night (vm 0) (vm 7) (vm 8) (rm 4) (rm 1) = some (R0, z0, z1) ∧ Inv (upd (upd v 15 w0) 16 w1) (updA r 12 w2) t (upd vm 0 z0) (updA rm 4 z1) tm := by
  obtain ⟨n, ns, nt, sa, sp, sb, hS, hT, hN, hI0, hI1, hO, hEe, htr, m8, m13, m17, m19, m33⟩ := id hI
  obtain ⟨b1, b2, b3, b4, s1, s2, s3, s4, s5, s6, hst⟩ := id hS
  obtain ⟨⟨d0, hd0, n1, n2⟩, n3, n4, cnt, un, ld, ub, uk, ud, cn, hL, hU⟩ := id hN
  obtain ⟨l1, l2, l3, l4, l5⟩ := id hL
  unfold f_X8_night f_X9_night
  rw [s1, s2, s3, s4, s5, l2, n1]
  by_cases hd : d0 = 99
  · refine ⟨-2, nI d0, v 16, r 12, nI 0, rm 4, by (repeat (simp (disch := omega) only [li_0, li_1, li_2, li_3, li_4, li_5, li_6, li_7, li_8, li_9, li_10, li_11, li_12, li_13, li_14, li_15, li_16, li_17, li_18, li_19, li_20, li_21, li_22, li_23, li_24, li_25, li_26, li_27, li_28, li_29, li_30, li_31, li_32, li_34, li_35, li_40, li_41, li_45, li_48, li_49, li_50, li_57, li_58, li_59, li_60, li_61, li_64, li_65, li_97, li_99, li_100, li_115, li_116, li_121, li_122, li_200, li_255, li_256, li_300, li_999, li_1000, li_12345, li_65535, li_1103515245, if_true, if_false, nI_add, pk_mul, pk_sub, s_div, s_rem, s_cl, p_le_t, p_le_f, p_lt_t, p_lt_f, p_eq_t, p_eq_f, bd1_s, bd2_s, bd3_s, nm_s, gd_t, gd_in, gd_nz, gd_bz0, gd_bz1, gd_cp])), by (repeat (simp (disch := omega) only [li_0, li_1, li_2, li_3, li_4, li_5, li_6, li_7, li_8, li_9, li_10, li_11, li_12, li_13, li_14, li_15, li_16, li_17, li_18, li_19, li_20, li_21, li_22, li_23, li_24, li_25, li_26, li_27, li_28, li_29, li_30, li_31, li_32, li_34, li_35, li_40, li_41, li_45, li_48, li_49, li_50, li_57, li_58, li_59, li_60, li_61, li_64, li_65, li_97, li_99, li_100, li_115, li_116, li_121, li_122, li_200, li_255, li_256, li_300, li_999, li_1000, li_12345, li_65535, li_1103515245, if_true, if_false, nI_add, pk_mul, pk_sub, s_div, s_rem, s_cl, p_le_t, p_le_f, p_lt_t, p_lt_f, p_eq_t, p_eq_f, bd1_s, bd2_s, bd3_s, nm_s, gd_t, gd_in, gd_nz, gd_bz0, gd_bz1, gd_cp, n2, hd])), ?_⟩
    exact ⟨n, ns, nt, sa, sp, sb, hS, hT, ⟨⟨d0, hd0, rfl, n2⟩, n3, n4, cnt, un, ld, ub, uk, ud, cn, hL, hU⟩, hI0, hI1, hO, hEe, htr, m8, m13, m17, m19, m33⟩
  · have n3' := n3.symm
    have n01 : ((0 : Nat) = 1) = False := eq_false (by decide)
    obtain ⟨u, hu, hu1, hu2⟩ := lotU (v 16 * nI 1103515245 + nI 12345)
    have hc : u % n < n := Nat.mod_lt _ (by omega)
    obtain ⟨ps', e1, e2⟩ := x_night56 hS hL (d := d0) (by omega) hc (v 16 * nI 1103515245 + nI 12345) nt 0 zF (r 12) (by omega) (by unfold zF; omega)
    obtain ⟨s', f1, f2, f3, f4⟩ := m_night (lp := r 13) hS (d := d0) (by omega) hc (nI 0) ns 0 zF (upd (rm 4) 1 (v 16 * nI 1103515245 + nI 12345)) (gL_s hL (fun i hi _ => pk_un (by omega))) ((pk_un (by omega)).trans n2) (by omega) (by unfold zF; omega)
    refine ⟨nI (u % n), nI (d0 + 1), v 16 * nI 1103515245 + nI 12345, ps', nI 0, s', ?_, ?_, ?_⟩
    · unfold f_X5_aroundRing
      simp only [rem_fold]
      (repeat (simp (disch := omega) only [li_0, li_1, li_2, li_3, li_4, li_5, li_6, li_7, li_8, li_9, li_10, li_11, li_12, li_13, li_14, li_15, li_16, li_17, li_18, li_19, li_20, li_21, li_22, li_23, li_24, li_25, li_26, li_27, li_28, li_29, li_30, li_31, li_32, li_34, li_35, li_40, li_41, li_45, li_48, li_49, li_50, li_57, li_58, li_59, li_60, li_61, li_64, li_65, li_97, li_99, li_100, li_115, li_116, li_121, li_122, li_200, li_255, li_256, li_300, li_999, li_1000, li_12345, li_65535, li_1103515245, if_true, if_false, nI_add, pk_mul, pk_sub, s_div, s_rem, s_cl, p_le_t, p_le_f, p_lt_t, p_lt_f, p_eq_t, p_eq_f, bd1_s, bd2_s, bd3_s, nm_s, gd_t, gd_in, gd_nz, gd_bz0, gd_bz1, gd_cp, hu1, e1]))
    · simp only [rem_fold]
      (repeat (simp (disch := omega) only [li_0, li_1, li_2, li_3, li_4, li_5, li_6, li_7, li_8, li_9, li_10, li_11, li_12, li_13, li_14, li_15, li_16, li_17, li_18, li_19, li_20, li_21, li_22, li_23, li_24, li_25, li_26, li_27, li_28, li_29, li_30, li_31, li_32, li_34, li_35, li_40, li_41, li_45, li_48, li_49, li_50, li_57, li_58, li_59, li_60, li_61, li_64, li_65, li_97, li_99, li_100, li_115, li_116, li_121, li_122, li_200, li_255, li_256, li_300, li_999, li_1000, li_12345, li_65535, li_1103515245, if_true, if_false, nI_add, pk_mul, pk_sub, s_div, s_rem, s_cl, p_le_t, p_le_f, p_lt_t, p_lt_f, p_eq_t, p_eq_f, bd1_s, bd2_s, bd3_s, nm_s, gd_t, gd_in, gd_nz, gd_bz0, gd_bz1, gd_cp, n2, n3', pk_us, hu2, f1]))
    · refine ⟨n, ns, nt, sa, sp, sb, hS, hT, ⟨⟨d0 + 1, by omega, rfl, f2⟩, ?_, ?_, cnt, un, ld, ub, uk, ud, cn, gL_s hL (fun i hi _ => ?_), gU_s hU (fun i hi _ => ?_)⟩, hI0, hI1, hO, hEe, htr, m8, m13, m17, m19, m33⟩
      · exact ((f4 1 (Or.inl rfl)).trans pk_us).symm
      · intro j hj
        show ps' j = s' (2 + j)
        rw [e2 j hj, f3 j hj, if_pos (by omega), pk_un (by omega), n4 j hj]
      · exact (f4 i (Or.inr (by omega))).trans (pk_un (by omega))
      · exact (f4 i (Or.inr (by omega))).trans (pk_un (by omega))
