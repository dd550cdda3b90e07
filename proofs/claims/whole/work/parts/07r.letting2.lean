/-! letting: the class's side -/
section LT2
variable {n ns nt on : Nat} {sa sp od op : Nat → Nat} {starts paces oparts prices sqb cls ms mof : Nat → Int32}
theorem x_sws (h : LK n ns nt on sa sp od op starts paces oparts prices sqb cls ms mof) {d : Nat} (hd : d < 1000000) : ∀ (r j nn S : Nat), j + r = ns → r < nn → S < 256 → ∃ S', S' < 256 ∧ f_X5_squaresWithStars_b4 (nI n) (nI ns) paces starts (nI d) nn (nI S) (nI j) = some (nI S') ∧ ∀ q, (S'.testBit q = true ↔ S.testBit q = true ∨ ∃ j', j ≤ j' ∧ j' < ns ∧ sqN n (sa j') (sp j') d = q) := by
  obtain ⟨h1, h2, h3, h4, h5, h6, h7, h8⟩ := id h
  intro r
  induction r with
  | zero =>
    intro j nn S hj hnn hS
    obtain ⟨m, rfl⟩ : ∃ m, nn = m + 1 := ⟨nn - 1, by omega⟩
    refine ⟨S, hS, ?_, fun q => ⟨fun e => Or.inl e, fun e => e.elim id (fun e => absurd e (ex_end (by omega)))⟩⟩
    rw [f_X5_squaresWithStars_b4]
    (repeat (simp (disch := omega) only [li_0, li_1, li_2, li_3, li_4, li_5, li_6, li_7, li_8, li_9, li_10, li_11, li_12, li_13, li_14, li_15, li_16, li_17, li_18, li_19, li_20, li_21, li_22, li_23, li_24, li_25, li_26, li_27, li_28, li_29, li_30, li_31, li_32, li_34, li_35, li_40, li_41, li_45, li_48, li_49, li_50, li_57, li_58, li_59, li_60, li_61, li_64, li_65, li_97, li_99, li_100, li_115, li_116, li_121, li_122, li_200, li_255, li_256, li_300, li_999, li_1000, li_12345, li_65535, li_1103515245, if_true, if_false, nI_add, pk_mul, pk_sub, s_div, s_rem, s_cl, p_le_t, p_le_f, p_lt_t, p_lt_f, p_eq_t, p_eq_f, bd1_s, bd2_s, bd3_s, nm_s, gd_t, gd_in, gd_nz, gd_bz0, gd_bz1, gd_cp]))
  | succ r ih =>
    intro j nn S hj hnn hS
    obtain ⟨m, rfl⟩ : ∃ m, nn = m + 1 := ⟨nn - 1, by omega⟩
    have e1 := (h7 j d (by omega) hd).1
    have hq := sqN_lt (n := n) (a := sa j) (p := sp j) (d := d) (h6 j (by omega))
    have e2 := sh_1 (show sqN n (sa j) (sp j) d < 31 by omega)
    have e3 := or_nI S (2 ^ sqN n (sa j) (sp j) d)
    have hlt : S ||| 2 ^ sqN n (sa j) (sp j) d < 256 := Nat.or_lt_two_pow (n := 8) hS (Nat.pow_lt_pow_right (by decide) (by omega))
    obtain ⟨S', k1, k2, k3⟩ := ih (j + 1) m (S ||| 2 ^ sqN n (sa j) (sp j) d) (by omega) (by omega) hlt
    refine ⟨S', k1, ?_, fun q => ?_⟩
    · rw [f_X5_squaresWithStars_b4]
      (repeat (simp (disch := omega) only [li_0, li_1, li_2, li_3, li_4, li_5, li_6, li_7, li_8, li_9, li_10, li_11, li_12, li_13, li_14, li_15, li_16, li_17, li_18, li_19, li_20, li_21, li_22, li_23, li_24, li_25, li_26, li_27, li_28, li_29, li_30, li_31, li_32, li_34, li_35, li_40, li_41, li_45, li_48, li_49, li_50, li_57, li_58, li_59, li_60, li_61, li_64, li_65, li_97, li_99, li_100, li_115, li_116, li_121, li_122, li_200, li_255, li_256, li_300, li_999, li_1000, li_12345, li_65535, li_1103515245, if_true, if_false, nI_add, pk_mul, pk_sub, s_div, s_rem, s_cl, p_le_t, p_le_f, p_lt_t, p_lt_f, p_eq_t, p_eq_f, bd1_s, bd2_s, bd3_s, nm_s, gd_t, gd_in, gd_nz, gd_bz0, gd_bz1, gd_cp, e1, e2, e3, k2]))
    · have hst := ex_step (C := fun j' => sqN n (sa j') (sp j') d = q) (show j < ns by omega)
      rw [k3 q, hst, Nat.testBit_or, Bool.or_eq_true, Nat.testBit_two_pow, decide_eq_true_iff, or_assoc]
def starOK (n ns : Nat) (sa sp : Nat → Nat) (star : Nat → Int32) (d : Nat) : Prop := ∃ S, S < 256 ∧ star d = nI S ∧ ∀ q, (S.testBit q = true ↔ ∃ j', 0 ≤ j' ∧ j' < ns ∧ sqN n (sa j') (sp j') d = q)
theorem x_fill : ∀ (r k nn : Nat) (held : Nat → Int32), k + r = 4 → r < nn → (∀ i, i < k → held i = nI 0) → ∃ w : Nat → Int32, f_J7_fill_53178_b5 (nI 0) (nI 4) nn (nI k) held = some w ∧ ∀ i, i < 4 → w i = nI 0 := by
  intro r
  induction r with
  | zero =>
    intro k nn held hk hnn hh
    obtain ⟨m, rfl⟩ : ∃ m, nn = m + 1 := ⟨nn - 1, by omega⟩
    refine ⟨held, ?_, fun i hi => hh i (by omega)⟩
    rw [f_J7_fill_53178_b5]
    (repeat (simp (disch := omega) only [li_0, li_1, li_2, li_3, li_4, li_5, li_6, li_7, li_8, li_9, li_10, li_11, li_12, li_13, li_14, li_15, li_16, li_17, li_18, li_19, li_20, li_21, li_22, li_23, li_24, li_25, li_26, li_27, li_28, li_29, li_30, li_31, li_32, li_34, li_35, li_40, li_41, li_45, li_48, li_49, li_50, li_57, li_58, li_59, li_60, li_61, li_64, li_65, li_97, li_99, li_100, li_115, li_116, li_121, li_122, li_200, li_255, li_256, li_300, li_999, li_1000, li_12345, li_65535, li_1103515245, if_true, if_false, nI_add, pk_mul, pk_sub, s_div, s_rem, s_cl, p_le_t, p_le_f, p_lt_t, p_lt_f, p_eq_t, p_eq_f, bd1_s, bd2_s, bd3_s, nm_s, gd_t, gd_in, gd_nz, gd_bz0, gd_bz1, gd_cp]))
  | succ r ih =>
    intro k nn held hk hnn hh
    obtain ⟨m, rfl⟩ : ∃ m, nn = m + 1 := ⟨nn - 1, by omega⟩
    obtain ⟨w, k1, k2⟩ := ih (k + 1) m (upd held k (nI 0)) (by omega) (by omega) (fun i hi => by
      by_cases e : i = k
      · subst e; exact pk_us
      · rw [pk_un e]; exact hh i (by omega))
    refine ⟨w, ?_, k2⟩
    rw [f_J7_fill_53178_b5]
    (repeat (simp (disch := omega) only [li_0, li_1, li_2, li_3, li_4, li_5, li_6, li_7, li_8, li_9, li_10, li_11, li_12, li_13, li_14, li_15, li_16, li_17, li_18, li_19, li_20, li_21, li_22, li_23, li_24, li_25, li_26, li_27, li_28, li_29, li_30, li_31, li_32, li_34, li_35, li_40, li_41, li_45, li_48, li_49, li_50, li_57, li_58, li_59, li_60, li_61, li_64, li_65, li_97, li_99, li_100, li_115, li_116, li_121, li_122, li_200, li_255, li_256, li_300, li_999, li_1000, li_12345, li_65535, li_1103515245, if_true, if_false, nI_add, pk_mul, pk_sub, s_div, s_rem, s_cl, p_le_t, p_le_f, p_lt_t, p_lt_f, p_eq_t, p_eq_f, bd1_s, bd2_s, bd3_s, nm_s, gd_t, gd_in, gd_nz, gd_bz0, gd_bz1, gd_cp, k1]))
theorem x_dk10 (h : LK n ns nt on sa sp od op starts paces oparts prices sqb cls ms mof) {σ d : Nat} (hs : σ < 256) (hd : d < 1000000) (star : Nat → Int32) : ∀ (r k nn : Nat) (held : Nat → Int32) (hh : Nat → Nat), k + r = on → r < nn → (∀ t, t < 4 → held t = nI (hh t) ∧ hh t < 256) → ∃ (held' : Nat → Int32) (hh' : Nat → Nat), f_X1_isDarkOn_b10 (nI on) oparts sqb star (nI σ) (nI d) nn (nI k) held = f_X1_isDarkOn_b72 star (nI d) held' zF (nI 0) ∧ ∀ t, t < 4 → held' t = nI (hh' t) ∧ hh' t < 256 ∧ ∀ q, ((hh' t).testBit q = true ↔ (hh t).testBit q = true ∨ ∃ k', k ≤ k' ∧ k' < on ∧ (Hd od σ k' t d ∧ q < n ∧ inO n od k' q)) := by
  obtain ⟨h1, h2, h3, h4, h5, h6, h7, h8⟩ := id h
  have hL := lk_L h
  intro r
  induction r with
  | zero =>
    intro k nn held hh hk hnn hb
    obtain ⟨m, rfl⟩ : ∃ m, nn = m + 1 := ⟨nn - 1, by omega⟩
    refine ⟨held, hh, ?_, fun t ht => ⟨(hb t ht).1, (hb t ht).2, fun q => ⟨fun e => Or.inl e, fun e => e.elim id (fun e => absurd e (ex_end (by omega)))⟩⟩⟩
    rw [f_X1_isDarkOn_b10]
    (repeat (simp (disch := omega) only [li_0, li_1, li_2, li_3, li_4, li_5, li_6, li_7, li_8, li_9, li_10, li_11, li_12, li_13, li_14, li_15, li_16, li_17, li_18, li_19, li_20, li_21, li_22, li_23, li_24, li_25, li_26, li_27, li_28, li_29, li_30, li_31, li_32, li_34, li_35, li_40, li_41, li_45, li_48, li_49, li_50, li_57, li_58, li_59, li_60, li_61, li_64, li_65, li_97, li_99, li_100, li_115, li_116, li_121, li_122, li_200, li_255, li_256, li_300, li_999, li_1000, li_12345, li_65535, li_1103515245, if_true, if_false, nI_add, pk_mul, pk_sub, s_div, s_rem, s_cl, p_le_t, p_le_f, p_lt_t, p_lt_f, p_eq_t, p_eq_f, bd1_s, bd2_s, bd3_s, nm_s, gd_t, gd_in, gd_nz, gd_bz0, gd_bz1, gd_cp]))
  | succ r ih =>
    intro k nn held hh hk hnn hb
    obtain ⟨m, rfl⟩ : ∃ m, nn = m + 1 := ⟨nn - 1, by omega⟩
    obtain ⟨⟨o1, o2, o3, o4, o5, o6⟩, -, -, q4, -, -, q7, -⟩ := h8 k (by omega)
    have eb := x_isIn hs (show k < 8 by omega)
    have eo := x_holds hL (show k < on by omega) hd
    have e0 := x_part0 hL (e := 0) (show k < on by omega) (by decide)
    rw [Nat.add_zero] at e0
    have hst := fun t q => ex_step (C := fun k' => Hd od σ k' t d ∧ q < n ∧ inO n od k' q) (show k < on by omega)
    obtain ⟨w0, g0, i1, i2⟩ := ih (k + 1) m held hh (by omega) (by omega) hb
    have hno : (∀ t, ¬ Hd od σ k t d) → ∀ t, t < 4 → w0 t = nI (g0 t) ∧ g0 t < 256 ∧ ∀ q, ((g0 t).testBit q = true ↔ (hh t).testBit q = true ∨ ∃ k', k ≤ k' ∧ k' < on ∧ (Hd od σ k' t d ∧ q < n ∧ inO n od k' q)) := by
      intro hC t ht
      obtain ⟨a1, a2, a3⟩ := i2 t ht
      refine ⟨a1, a2, fun q => ?_⟩
      have hC2 : ¬ (Hd od σ k t d ∧ q < n ∧ inO n od k q) := fun e => hC t e.1
      rw [a3 q, hst t q, or_iff_right hC2]
    rw [f_X1_isDarkOn_b10]
    unfold f_X1_isDarkOn_b64
    cases bk : σ.testBit k with
    | false =>
      rw [bk, bI_f] at eb
      refine ⟨w0, g0, by (repeat (simp (disch := omega) only [li_0, li_1, li_2, li_3, li_4, li_5, li_6, li_7, li_8, li_9, li_10, li_11, li_12, li_13, li_14, li_15, li_16, li_17, li_18, li_19, li_20, li_21, li_22, li_23, li_24, li_25, li_26, li_27, li_28, li_29, li_30, li_31, li_32, li_34, li_35, li_40, li_41, li_45, li_48, li_49, li_50, li_57, li_58, li_59, li_60, li_61, li_64, li_65, li_97, li_99, li_100, li_115, li_116, li_121, li_122, li_200, li_255, li_256, li_300, li_999, li_1000, li_12345, li_65535, li_1103515245, if_true, if_false, nI_add, pk_mul, pk_sub, s_div, s_rem, s_cl, p_le_t, p_le_f, p_lt_t, p_lt_f, p_eq_t, p_eq_f, bd1_s, bd2_s, bd3_s, nm_s, gd_t, gd_in, gd_nz, gd_bz0, gd_bz1, gd_cp, eb, i1])), hno (fun t e => ?_)⟩
      have := e.1
      rw [bk] at this
      cases this
    | true =>
      rw [bk, bI_t] at eb
      by_cases c3 : od (5 * k + 3) ≤ d
      · by_cases c4 : d ≤ od (5 * k + 4)
        · rw [decide_eq_true c3, decide_eq_true c4, Bool.and_self, bI_t] at eo
          have hl : sbits n (od (5 * k + 1)) (od (5 * k + 2)) < 256 := fb_256 _ h2
          obtain ⟨z1, z2⟩ := hb (od (5 * k)) (by omega)
          have eor := or_nI (hh (od (5 * k))) (sbits n (od (5 * k + 1)) (od (5 * k + 2)))
          obtain ⟨w, g, k1, k2⟩ := ih (k + 1) m (upd held (od (5 * k)) (nI (hh (od (5 * k)) ||| sbits n (od (5 * k + 1)) (od (5 * k + 2))))) (fun t => if t = od (5 * k) then hh (od (5 * k)) ||| sbits n (od (5 * k + 1)) (od (5 * k + 2)) else hh t) (by omega) (by omega) (fun t ht => by
            by_cases e : t = od (5 * k)
            · rw [if_pos e, e]
              exact ⟨pk_us, Nat.or_lt_two_pow (n := 8) z2 hl⟩
            · rw [if_neg e, pk_un e]
              exact hb t ht)
          refine ⟨w, g, by (repeat (simp (disch := omega) only [li_0, li_1, li_2, li_3, li_4, li_5, li_6, li_7, li_8, li_9, li_10, li_11, li_12, li_13, li_14, li_15, li_16, li_17, li_18, li_19, li_20, li_21, li_22, li_23, li_24, li_25, li_26, li_27, li_28, li_29, li_30, li_31, li_32, li_34, li_35, li_40, li_41, li_45, li_48, li_49, li_50, li_57, li_58, li_59, li_60, li_61, li_64, li_65, li_97, li_99, li_100, li_115, li_116, li_121, li_122, li_200, li_255, li_256, li_300, li_999, li_1000, li_12345, li_65535, li_1103515245, if_true, if_false, nI_add, pk_mul, pk_sub, s_div, s_rem, s_cl, p_le_t, p_le_f, p_lt_t, p_lt_f, p_eq_t, p_eq_f, bd1_s, bd2_s, bd3_s, nm_s, gd_t, gd_in, gd_nz, gd_bz0, gd_bz1, gd_cp, eb, eo, e0, z1, q7, eor, k1])), fun t ht => ?_⟩
          obtain ⟨a1, a2, a3⟩ := k2 t ht
          refine ⟨a1, a2, fun q => ?_⟩
          rw [a3 q, hst t q]
          by_cases e : t = od (5 * k)
          · rw [if_pos e, Nat.testBit_or, Bool.or_eq_true, sbits_fb, fb_bit, e, or_assoc]
            have hH : Hd od σ k (od (5 * k)) d := ⟨bk, rfl, c3, c4⟩
            constructor
            · rintro (a | a | a)
              · exact Or.inl a
              · exact Or.inr (Or.inl ⟨hH, a⟩)
              · exact Or.inr (Or.inr a)
            · rintro (a | a | a)
              · exact Or.inl a
              · exact Or.inr (Or.inl a.2)
              · exact Or.inr (Or.inr a)
          · have hC2 : ¬ (Hd od σ k t d ∧ q < n ∧ inO n od k q) := fun x => e x.1.2.1.symm
            rw [if_neg e, or_iff_right hC2]
        · rw [decide_eq_false c4, Bool.and_false, bI_f] at eo
          exact ⟨w0, g0, by (repeat (simp (disch := omega) only [li_0, li_1, li_2, li_3, li_4, li_5, li_6, li_7, li_8, li_9, li_10, li_11, li_12, li_13, li_14, li_15, li_16, li_17, li_18, li_19, li_20, li_21, li_22, li_23, li_24, li_25, li_26, li_27, li_28, li_29, li_30, li_31, li_32, li_34, li_35, li_40, li_41, li_45, li_48, li_49, li_50, li_57, li_58, li_59, li_60, li_61, li_64, li_65, li_97, li_99, li_100, li_115, li_116, li_121, li_122, li_200, li_255, li_256, li_300, li_999, li_1000, li_12345, li_65535, li_1103515245, if_true, if_false, nI_add, pk_mul, pk_sub, s_div, s_rem, s_cl, p_le_t, p_le_f, p_lt_t, p_lt_f, p_eq_t, p_eq_f, bd1_s, bd2_s, bd3_s, nm_s, gd_t, gd_in, gd_nz, gd_bz0, gd_bz1, gd_cp, eb, eo, i1])), hno (fun t e => c4 e.2.2.2)⟩
      · rw [decide_eq_false c3, Bool.false_and, bI_f] at eo
        exact ⟨w0, g0, by (repeat (simp (disch := omega) only [li_0, li_1, li_2, li_3, li_4, li_5, li_6, li_7, li_8, li_9, li_10, li_11, li_12, li_13, li_14, li_15, li_16, li_17, li_18, li_19, li_20, li_21, li_22, li_23, li_24, li_25, li_26, li_27, li_28, li_29, li_30, li_31, li_32, li_34, li_35, li_40, li_41, li_45, li_48, li_49, li_50, li_57, li_58, li_59, li_60, li_61, li_64, li_65, li_97, li_99, li_100, li_115, li_116, li_121, li_122, li_200, li_255, li_256, li_300, li_999, li_1000, li_12345, li_65535, li_1103515245, if_true, if_false, nI_add, pk_mul, pk_sub, s_div, s_rem, s_cl, p_le_t, p_le_f, p_lt_t, p_lt_f, p_eq_t, p_eq_f, bd1_s, bd2_s, bd3_s, nm_s, gd_t, gd_in, gd_nz, gd_bz0, gd_bz1, gd_cp, eb, eo, i1])), hno (fun t e => c3 e.2.2.1)⟩
theorem x_dk72 {d S : Nat} (hd : d < 100) {star held : Nat → Int32} {hh : Nat → Nat} (hS : star d = nI S) (hb : ∀ t, t < 4 → held t = nI (hh t) ∧ hh t < 256) : ∀ (r t nn : Nat), t + r = 4 → r < nn → ∃ c : Bool, f_X1_isDarkOn_b72 star (nI d) held nn (nI t) = some (bI c, held) ∧ (c = true ↔ false = true ∨ ∃ t', t ≤ t' ∧ t' < 4 ∧ (hh t' ≠ 0 ∧ hh t' &&& S = 0)) := by
  intro r
  induction r with
  | zero =>
    intro t nn ht hnn
    obtain ⟨m, rfl⟩ : ∃ m, nn = m + 1 := ⟨nn - 1, by omega⟩
    refine ⟨false, ?_, ⟨fun e => Or.inl e, fun e => e.elim id (fun e => absurd e (ex_end (by omega)))⟩⟩
    rw [f_X1_isDarkOn_b72]
    (repeat (simp (disch := omega) only [li_0, li_1, li_2, li_3, li_4, li_5, li_6, li_7, li_8, li_9, li_10, li_11, li_12, li_13, li_14, li_15, li_16, li_17, li_18, li_19, li_20, li_21, li_22, li_23, li_24, li_25, li_26, li_27, li_28, li_29, li_30, li_31, li_32, li_34, li_35, li_40, li_41, li_45, li_48, li_49, li_50, li_57, li_58, li_59, li_60, li_61, li_64, li_65, li_97, li_99, li_100, li_115, li_116, li_121, li_122, li_200, li_255, li_256, li_300, li_999, li_1000, li_12345, li_65535, li_1103515245, if_true, if_false, nI_add, pk_mul, pk_sub, s_div, s_rem, s_cl, p_le_t, p_le_f, p_lt_t, p_lt_f, p_eq_t, p_eq_f, bd1_s, bd2_s, bd3_s, nm_s, gd_t, gd_in, gd_nz, gd_bz0, gd_bz1, gd_cp, bI_f]))
  | succ r ih =>
    intro t nn ht hnn
    obtain ⟨m, rfl⟩ : ∃ m, nn = m + 1 := ⟨nn - 1, by omega⟩
    obtain ⟨z1, z2⟩ := hb t (by omega)
    have hst := ex_step (C := fun t' => hh t' ≠ 0 ∧ hh t' &&& S = 0) (show t < 4 by omega)
    have fa := fa_and (hh t) S
    have hlt : hh t &&& S < 256 := by rw [Nat.and_comm]; exact and_256 z2
    obtain ⟨c, i1, i2⟩ := ih (t + 1) m (by omega) (by omega)
    rw [f_X1_isDarkOn_b72]
    unfold f_X1_isDarkOn_b104
    by_cases c1 : hh t = 0
    · exact ⟨c, by (repeat (simp (disch := omega) only [li_0, li_1, li_2, li_3, li_4, li_5, li_6, li_7, li_8, li_9, li_10, li_11, li_12, li_13, li_14, li_15, li_16, li_17, li_18, li_19, li_20, li_21, li_22, li_23, li_24, li_25, li_26, li_27, li_28, li_29, li_30, li_31, li_32, li_34, li_35, li_40, li_41, li_45, li_48, li_49, li_50, li_57, li_58, li_59, li_60, li_61, li_64, li_65, li_97, li_99, li_100, li_115, li_116, li_121, li_122, li_200, li_255, li_256, li_300, li_999, li_1000, li_12345, li_65535, li_1103515245, if_true, if_false, nI_add, pk_mul, pk_sub, s_div, s_rem, s_cl, p_le_t, p_le_f, p_lt_t, p_lt_f, p_eq_t, p_eq_f, bd1_s, bd2_s, bd3_s, nm_s, gd_t, gd_in, gd_nz, gd_bz0, gd_bz1, gd_cp, z1, c1, i1])), or_no i2 hst (fun e => e.1 c1)⟩
    · by_cases c2 : hh t &&& S = 0
      · rw [c2] at fa
        exact ⟨true, by (repeat (simp (disch := omega) only [li_0, li_1, li_2, li_3, li_4, li_5, li_6, li_7, li_8, li_9, li_10, li_11, li_12, li_13, li_14, li_15, li_16, li_17, li_18, li_19, li_20, li_21, li_22, li_23, li_24, li_25, li_26, li_27, li_28, li_29, li_30, li_31, li_32, li_34, li_35, li_40, li_41, li_45, li_48, li_49, li_50, li_57, li_58, li_59, li_60, li_61, li_64, li_65, li_97, li_99, li_100, li_115, li_116, li_121, li_122, li_200, li_255, li_256, li_300, li_999, li_1000, li_12345, li_65535, li_1103515245, if_true, if_false, nI_add, pk_mul, pk_sub, s_div, s_rem, s_cl, p_le_t, p_le_f, p_lt_t, p_lt_f, p_eq_t, p_eq_f, bd1_s, bd2_s, bd3_s, nm_s, gd_t, gd_in, gd_nz, gd_bz0, gd_bz1, gd_cp, z1, hS, fa, bI_t])), ⟨fun _ => Or.inr (hst.mpr (Or.inl ⟨c1, c2⟩)), fun _ => rfl⟩⟩
      · exact ⟨c, by (repeat (simp (disch := omega) only [li_0, li_1, li_2, li_3, li_4, li_5, li_6, li_7, li_8, li_9, li_10, li_11, li_12, li_13, li_14, li_15, li_16, li_17, li_18, li_19, li_20, li_21, li_22, li_23, li_24, li_25, li_26, li_27, li_28, li_29, li_30, li_31, li_32, li_34, li_35, li_40, li_41, li_45, li_48, li_49, li_50, li_57, li_58, li_59, li_60, li_61, li_64, li_65, li_97, li_99, li_100, li_115, li_116, li_121, li_122, li_200, li_255, li_256, li_300, li_999, li_1000, li_12345, li_65535, li_1103515245, if_true, if_false, nI_add, pk_mul, pk_sub, s_div, s_rem, s_cl, p_le_t, p_le_f, p_lt_t, p_lt_f, p_eq_t, p_eq_f, bd1_s, bd2_s, bd3_s, nm_s, gd_t, gd_in, gd_nz, gd_bz0, gd_bz1, gd_cp, z1, hS, fa, i1])), or_no i2 hst (fun e => c2 e.2)⟩
theorem x_darkOn (h : LK n ns nt on sa sp od op starts paces oparts prices sqb cls ms mof) {σ d : Nat} (hs : σ < 256) (hd : d < 100) {star : Nat → Int32} (hst : starOK n ns sa sp star d) (held : Nat → Int32) : ∃ (c : Bool) (held' : Nat → Int32), f_X1_isDarkOn held (nI on) oparts sqb star (nI σ) (nI d) = some (bI c, held') ∧ (c = true ↔ ∃ t', 0 ≤ t' ∧ t' < nt ∧ ¬ HS n ns on sa sp od σ t' d) := by
  obtain ⟨h1, h2, h3, h4, h5, h6, h7, h8⟩ := id h
  obtain ⟨S, hS1, hS2, hS3⟩ := hst
  obtain ⟨w, w1, w2⟩ := x_fill 4 0 zF held (by omega) (by unfold zF; omega) (fun i hi => by omega)
  obtain ⟨held', hh, k1, k2⟩ := x_dk10 h hs (show d < 1000000 by omega) star on 0 zF w (fun _ => 0) (by omega) (by unfold zF; omega) (fun t ht => ⟨w2 t ht, by decide⟩)
  obtain ⟨c, l1, l2⟩ := x_dk72 hd hS2 (fun t ht => ⟨(k2 t ht).1, (k2 t ht).2.1⟩) 4 0 zF (by omega) (by unfold zF; omega)
  refine ⟨c, held', ?_, ?_⟩
  · unfold f_X1_isDarkOn f_J7_fill_53178
    (repeat (simp (disch := omega) only [li_0, li_1, li_2, li_3, li_4, li_5, li_6, li_7, li_8, li_9, li_10, li_11, li_12, li_13, li_14, li_15, li_16, li_17, li_18, li_19, li_20, li_21, li_22, li_23, li_24, li_25, li_26, li_27, li_28, li_29, li_30, li_31, li_32, li_34, li_35, li_40, li_41, li_45, li_48, li_49, li_50, li_57, li_58, li_59, li_60, li_61, li_64, li_65, li_97, li_99, li_100, li_115, li_116, li_121, li_122, li_200, li_255, li_256, li_300, li_999, li_1000, li_12345, li_65535, li_1103515245, if_true, if_false, nI_add, pk_mul, pk_sub, s_div, s_rem, s_cl, p_le_t, p_le_f, p_lt_t, p_lt_f, p_eq_t, p_eq_f, bd1_s, bd2_s, bd3_s, nm_s, gd_t, gd_in, gd_nz, gd_bz0, gd_bz1, gd_cp, w1, k1, l1]))
  · have hbit : ∀ t, t < 4 → ∀ q, ((hh t).testBit q = true ↔ ∃ k', 0 ≤ k' ∧ k' < on ∧ (Hd od σ k' t d ∧ q < n ∧ inO n od k' q)) := by
      intro t ht q
      rw [(k2 t ht).2.2 q, Nat.zero_testBit, or_iff_right (by decide)]
    have hne : ∀ t, t < 4 → (hh t ≠ 0 ↔ ∃ k, 0 ≤ k ∧ k < on ∧ Hd od σ k t d) := by
      intro t ht
      constructor
      · intro e
        obtain ⟨q, hq⟩ := Nat.exists_testBit_of_ne_zero e
        obtain ⟨k, a1, a2, a3, -⟩ := (hbit t ht q).mp hq
        exact ⟨k, a1, a2, a3⟩
      · rintro ⟨k, a1, a2, a3⟩ e
        obtain ⟨⟨o1, o2, o3, o4, o5, o6⟩, -⟩ := h8 k a2
        have hq : (hh t).testBit (od (5 * k + 1)) = true := by
          refine (hbit t ht _).mpr ⟨k, a1, a2, a3, o2, ?_⟩
          show (od (5 * k + 1) + n - od (5 * k + 1)) % n < od (5 * k + 2)
          rw [show od (5 * k + 1) + n - od (5 * k + 1) = n by omega, Nat.mod_self]
          omega
        rw [e, Nat.zero_testBit] at hq
        cases hq
    have hand : ∀ t, t < 4 → (hh t &&& S ≠ 0 ↔ ∃ k, 0 ≤ k ∧ k < on ∧ (Hd od σ k t d ∧ ∃ j, 0 ≤ j ∧ j < ns ∧ inO n od k (sqN n (sa j) (sp j) d))) := by
      intro t ht
      rw [and_ne]
      constructor
      · rintro ⟨q, a1, a2⟩
        obtain ⟨k, b1, b2, b3, b4, b5⟩ := (hbit t ht q).mp a1
        obtain ⟨j, c1, c2, c3⟩ := (hS3 q).mp a2
        exact ⟨k, b1, b2, b3, j, c1, c2, by rw [c3]; exact b5⟩
      · rintro ⟨k, b1, b2, b3, j, c1, c2, c3⟩
        exact ⟨sqN n (sa j) (sp j) d, (hbit t ht _).mpr ⟨k, b1, b2, b3, sqN_lt (h6 j c2), c3⟩, (hS3 _).mpr ⟨j, c1, c2, rfl⟩⟩
    have hHS : ∀ t, t < 4 → (¬ HS n ns on sa sp od σ t d ↔ hh t ≠ 0 ∧ hh t &&& S = 0) := by
      intro t ht
      unfold HS
      rw [← hne t ht, ← hand t ht, Classical.not_imp]
      exact ⟨fun e => ⟨e.1, Decidable.of_not_not e.2⟩, fun e => ⟨e.1, fun x => x e.2⟩⟩
    rw [l2, or_iff_right (by decide)]
    constructor
    · rintro ⟨t, a1, a2, a3⟩
      have a4 := (hHS t a2).mpr a3
      obtain ⟨k, b1, b2, b3⟩ := (hne t a2).mp a3.1
      have := (h8 k b2).1.1
      have := b3.2.1
      exact ⟨t, a1, by omega, a4⟩
    · rintro ⟨t, a1, a2, a3⟩
      exact ⟨t, a1, by omega, (hHS t (by omega)).mp a3⟩
theorem x_dkW (h : LK n ns nt on sa sp od op starts paces oparts prices sqb cls ms mof) {σ b : Nat} (hs : σ < 256) (hb : b ≤ 99) {star : Nat → Int32} : ∀ (r d nn : Nat) (held : Nat → Int32), (∀ d', d ≤ d' → d' ≤ b → starOK n ns sa sp star d') → d + r = b + 1 → r < nn → ∃ (c : Bool) (held' : Nat → Int32), f_X1_isDarkWithin_b3 (nI on) oparts sqb star (nI σ) (nI b) nn (nI d) held = some (bI c, held') ∧ (c = true ↔ false = true ∨ ∃ d', d ≤ d' ∧ d' < b + 1 ∧ ∃ t', 0 ≤ t' ∧ t' < nt ∧ ¬ HS n ns on sa sp od σ t' d') := by
  intro r
  induction r with
  | zero =>
    intro d nn held hok hd hnn
    obtain ⟨m, rfl⟩ : ∃ m, nn = m + 1 := ⟨nn - 1, by omega⟩
    refine ⟨false, held, ?_, ⟨fun e => Or.inl e, fun e => e.elim id (fun e => absurd e (ex_end (by omega)))⟩⟩
    rw [f_X1_isDarkWithin_b3]
    (repeat (simp (disch := omega) only [li_0, li_1, li_2, li_3, li_4, li_5, li_6, li_7, li_8, li_9, li_10, li_11, li_12, li_13, li_14, li_15, li_16, li_17, li_18, li_19, li_20, li_21, li_22, li_23, li_24, li_25, li_26, li_27, li_28, li_29, li_30, li_31, li_32, li_34, li_35, li_40, li_41, li_45, li_48, li_49, li_50, li_57, li_58, li_59, li_60, li_61, li_64, li_65, li_97, li_99, li_100, li_115, li_116, li_121, li_122, li_200, li_255, li_256, li_300, li_999, li_1000, li_12345, li_65535, li_1103515245, if_true, if_false, nI_add, pk_mul, pk_sub, s_div, s_rem, s_cl, p_le_t, p_le_f, p_lt_t, p_lt_f, p_eq_t, p_eq_f, bd1_s, bd2_s, bd3_s, nm_s, gd_t, gd_in, gd_nz, gd_bz0, gd_bz1, gd_cp, bI_f]))
  | succ r ih =>
    intro d nn held hok hd hnn
    obtain ⟨m, rfl⟩ : ∃ m, nn = m + 1 := ⟨nn - 1, by omega⟩
    have hst := ex_step (C := fun d' => ∃ t', 0 ≤ t' ∧ t' < nt ∧ ¬ HS n ns on sa sp od σ t' d') (show d < b + 1 by omega)
    obtain ⟨c1, w, k1, k2⟩ := x_darkOn h hs (show d < 100 by omega) (hok d (Nat.le_refl d) (by omega)) held
    obtain ⟨c2, w2, l1, l2⟩ := ih (d + 1) m w (fun d' a1 a2 => hok d' (by omega) a2) (by omega) (by omega)
    rw [f_X1_isDarkWithin_b3]
    cases c1 with
    | true =>
      rw [bI_t] at k1
      exact ⟨true, w, by (repeat (simp (disch := omega) only [li_0, li_1, li_2, li_3, li_4, li_5, li_6, li_7, li_8, li_9, li_10, li_11, li_12, li_13, li_14, li_15, li_16, li_17, li_18, li_19, li_20, li_21, li_22, li_23, li_24, li_25, li_26, li_27, li_28, li_29, li_30, li_31, li_32, li_34, li_35, li_40, li_41, li_45, li_48, li_49, li_50, li_57, li_58, li_59, li_60, li_61, li_64, li_65, li_97, li_99, li_100, li_115, li_116, li_121, li_122, li_200, li_255, li_256, li_300, li_999, li_1000, li_12345, li_65535, li_1103515245, if_true, if_false, nI_add, pk_mul, pk_sub, s_div, s_rem, s_cl, p_le_t, p_le_f, p_lt_t, p_lt_f, p_eq_t, p_eq_f, bd1_s, bd2_s, bd3_s, nm_s, gd_t, gd_in, gd_nz, gd_bz0, gd_bz1, gd_cp, k1, bI_t])), ⟨fun _ => Or.inr (hst.mpr (Or.inl (k2.mp rfl))), fun _ => rfl⟩⟩
    | false =>
      rw [bI_f] at k1
      exact ⟨c2, w2, by (repeat (simp (disch := omega) only [li_0, li_1, li_2, li_3, li_4, li_5, li_6, li_7, li_8, li_9, li_10, li_11, li_12, li_13, li_14, li_15, li_16, li_17, li_18, li_19, li_20, li_21, li_22, li_23, li_24, li_25, li_26, li_27, li_28, li_29, li_30, li_31, li_32, li_34, li_35, li_40, li_41, li_45, li_48, li_49, li_50, li_57, li_58, li_59, li_60, li_61, li_64, li_65, li_97, li_99, li_100, li_115, li_116, li_121, li_122, li_200, li_255, li_256, li_300, li_999, li_1000, li_12345, li_65535, li_1103515245, if_true, if_false, nI_add, pk_mul, pk_sub, s_div, s_rem, s_cl, p_le_t, p_le_f, p_lt_t, p_lt_f, p_eq_t, p_eq_f, bd1_s, bd2_s, bd3_s, nm_s, gd_t, gd_in, gd_nz, gd_bz0, gd_bz1, gd_cp, k1, l1])), or_no l2 hst (fun e => by cases k2.mpr e)⟩
theorem x_best3 (h : LK n ns nt on sa sp od op starts paces oparts prices sqb cls ms mof) {a b : Nat} (hb : b ≤ 99) (held : Nat → Int32) : ∀ (r d nn : Nat) (star : Nat → Int32), a ≤ d → d + r = b + 1 → r < nn → (∀ d', a ≤ d' → d' < d → starOK n ns sa sp star d') → ∃ star' : Nat → Int32, f_X1_bestSet_b3 (nI n) (nI ns) paces starts (nI on) prices cls oparts sqb (nI a) (nI b) held nn (nI d) star = f_X1_bestSet_b37 (nI on) prices cls oparts sqb (nI a) (nI b) star' zF (nI 0) (nI 0) (nI 1) held ∧ ∀ d', a ≤ d' → d' ≤ b → starOK n ns sa sp star' d' := by
  have h3 := h.2.2.1
  intro r
  induction r with
  | zero =>
    intro d nn star ha hd hnn hok
    obtain ⟨m, rfl⟩ : ∃ m, nn = m + 1 := ⟨nn - 1, by omega⟩
    refine ⟨star, ?_, fun d' a1 a2 => hok d' a1 (by omega)⟩
    rw [f_X1_bestSet_b3]
    (repeat (simp (disch := omega) only [li_0, li_1, li_2, li_3, li_4, li_5, li_6, li_7, li_8, li_9, li_10, li_11, li_12, li_13, li_14, li_15, li_16, li_17, li_18, li_19, li_20, li_21, li_22, li_23, li_24, li_25, li_26, li_27, li_28, li_29, li_30, li_31, li_32, li_34, li_35, li_40, li_41, li_45, li_48, li_49, li_50, li_57, li_58, li_59, li_60, li_61, li_64, li_65, li_97, li_99, li_100, li_115, li_116, li_121, li_122, li_200, li_255, li_256, li_300, li_999, li_1000, li_12345, li_65535, li_1103515245, if_true, if_false, nI_add, pk_mul, pk_sub, s_div, s_rem, s_cl, p_le_t, p_le_f, p_lt_t, p_lt_f, p_eq_t, p_eq_f, bd1_s, bd2_s, bd3_s, nm_s, gd_t, gd_in, gd_nz, gd_bz0, gd_bz1, gd_cp]))
  | succ r ih =>
    intro d nn star ha hd hnn hok
    obtain ⟨m, rfl⟩ : ∃ m, nn = m + 1 := ⟨nn - 1, by omega⟩
    obtain ⟨S, s1, s2, s3⟩ := x_sws h (show d < 1000000 by omega) ns 0 zF 0 (by omega) (by unfold zF; omega) (by decide)
    obtain ⟨star', k1, k2⟩ := ih (d + 1) m (upd star d (nI S)) (by omega) (by omega) (by omega) (fun d' a1 a2 => by
      by_cases e : d' = d
      · subst e
        refine ⟨S, s1, pk_us, fun q => ?_⟩
        rw [s3 q, Nat.zero_testBit, or_iff_right (by decide)]
      · obtain ⟨S2, z1, z2, z3⟩ := hok d' a1 (by omega)
        exact ⟨S2, z1, by rw [pk_un e]; exact z2, z3⟩)
    refine ⟨star', ?_, k2⟩
    rw [f_X1_bestSet_b3]
    unfold f_X5_squaresWithStars
    (repeat (simp (disch := omega) only [li_0, li_1, li_2, li_3, li_4, li_5, li_6, li_7, li_8, li_9, li_10, li_11, li_12, li_13, li_14, li_15, li_16, li_17, li_18, li_19, li_20, li_21, li_22, li_23, li_24, li_25, li_26, li_27, li_28, li_29, li_30, li_31, li_32, li_34, li_35, li_40, li_41, li_45, li_48, li_49, li_50, li_57, li_58, li_59, li_60, li_61, li_64, li_65, li_97, li_99, li_100, li_115, li_116, li_121, li_122, li_200, li_255, li_256, li_300, li_999, li_1000, li_12345, li_65535, li_1103515245, if_true, if_false, nI_add, pk_mul, pk_sub, s_div, s_rem, s_cl, p_le_t, p_le_f, p_lt_t, p_lt_f, p_eq_t, p_eq_f, bd1_s, bd2_s, bd3_s, nm_s, gd_t, gd_in, gd_nz, gd_bz0, gd_bz1, gd_cp, s2, k1]))
theorem let_loop (h : LK n ns nt on sa sp od op starts paces oparts prices sqb cls ms mof) {a b : Nat} (hab : a ≤ b) (hb : b ≤ 99) {star : Nat → Int32} (hok : ∀ d', a ≤ d' → d' ≤ b → starOK n ns sa sp star d') (g3 th : Int32) {N : Nat} (hN : 2 ^ on = N) (hN2 : N ≤ 256) : ∀ (r σ nn mm best : Nat) (held : Nat → Int32), σ + r = N → r < nn → r < mm → best < 256 → ∃ (best' : Nat) (held' : Nat → Int32), best' < 256 ∧ f_X1_bestSet_b37 (nI on) prices cls oparts sqb (nI a) (nI b) star nn (nI best) (nI (prN op best on 0)) (nI σ) held = some (nI best', star, held') ∧ f_X9_letting_b42 (nI n) (nI ns) (nI nt) (nI on) mof ms (nI a) (nI b) g3 th mm (nI best) (nI (prN op best on 0)) (nI σ) = (if g3 = nI 0 then some (nI (prN op best' on 0), th) else some (nI best', th)) := by
  have h5 := h.2.2.2.2.1
  have eN := sh_1 (show on < 31 by omega)
  rw [hN] at eN
  intro r
  induction r with
  | zero =>
    intro σ nn mm best held hσ hnn hmm hbest
    obtain ⟨m, rfl⟩ : ∃ m, nn = m + 1 := ⟨nn - 1, by omega⟩
    obtain ⟨p, rfl⟩ : ∃ m, mm = m + 1 := ⟨mm - 1, by omega⟩
    refine ⟨best, held, hbest, ?_, ?_⟩
    · rw [f_X1_bestSet_b37]
      (repeat (simp (disch := omega) only [li_0, li_1, li_2, li_3, li_4, li_5, li_6, li_7, li_8, li_9, li_10, li_11, li_12, li_13, li_14, li_15, li_16, li_17, li_18, li_19, li_20, li_21, li_22, li_23, li_24, li_25, li_26, li_27, li_28, li_29, li_30, li_31, li_32, li_34, li_35, li_40, li_41, li_45, li_48, li_49, li_50, li_57, li_58, li_59, li_60, li_61, li_64, li_65, li_97, li_99, li_100, li_115, li_116, li_121, li_122, li_200, li_255, li_256, li_300, li_999, li_1000, li_12345, li_65535, li_1103515245, if_true, if_false, nI_add, pk_mul, pk_sub, s_div, s_rem, s_cl, p_le_t, p_le_f, p_lt_t, p_lt_f, p_eq_t, p_eq_f, bd1_s, bd2_s, bd3_s, nm_s, gd_t, gd_in, gd_nz, gd_bz0, gd_bz1, gd_cp, eN]))
    · rw [f_X9_letting_b42]
      (repeat (simp (disch := omega) only [li_0, li_1, li_2, li_3, li_4, li_5, li_6, li_7, li_8, li_9, li_10, li_11, li_12, li_13, li_14, li_15, li_16, li_17, li_18, li_19, li_20, li_21, li_22, li_23, li_24, li_25, li_26, li_27, li_28, li_29, li_30, li_31, li_32, li_34, li_35, li_40, li_41, li_45, li_48, li_49, li_50, li_57, li_58, li_59, li_60, li_61, li_64, li_65, li_97, li_99, li_100, li_115, li_116, li_121, li_122, li_200, li_255, li_256, li_300, li_999, li_1000, li_12345, li_65535, li_1103515245, if_true, if_false, nI_add, pk_mul, pk_sub, s_div, s_rem, s_cl, p_le_t, p_le_f, p_lt_t, p_lt_f, p_eq_t, p_eq_f, bd1_s, bd2_s, bd3_s, nm_s, gd_t, gd_in, gd_nz, gd_bz0, gd_bz1, gd_cp, eN]))
  | succ r ih =>
    intro σ nn mm best held hσ hnn hmm hbest
    obtain ⟨m, rfl⟩ : ∃ m, nn = m + 1 := ⟨nn - 1, by omega⟩
    obtain ⟨p, rfl⟩ : ∃ m, mm = m + 1 := ⟨mm - 1, by omega⟩
    have hs : σ < 256 := by omega
    have ep := x_priceOf h hs
    have p1 := lk_pr h σ
    have p2 := lk_pr h best
    obtain ⟨c1, cl1, cl2⟩ := x_clW h hs
    obtain ⟨c2, w, dk1, dk2⟩ := x_dkW h hs hb (b + 1 - a) a zF held hok (by omega) (by unfold zF; omega)
    obtain ⟨c3, mb1, mb2⟩ := m_mayBe h hs hab hb
    have mp := m_price h hs (f_X9_letting_b42 (nI n) (nI ns) (nI nt) (nI on) mof ms (nI a) (nI b) g3 th p) (nI a) (nI b) (nI best) (nI (prN op best on 0)) on 0 zF 0 (by omega) (by unfold zF; omega)
    rw [Nat.zero_add] at mp
    rw [f_X9_letting_b59] at mp
    unfold f_X9_letting_b132 at mp
    rw [f_X1_bestSet_b37, f_X9_letting_b42]
    unfold f_X1_bestSet_b94 f_X1_isDarkWithin
    by_cases hp : prN op σ on 0 ≤ prN op best on 0
    · obtain ⟨best', held', i1, i2, i3⟩ := ih (σ + 1) m p best held (by omega) (by omega) (by omega) hbest
      refine ⟨best', held', i1, by (repeat (simp (disch := omega) only [li_0, li_1, li_2, li_3, li_4, li_5, li_6, li_7, li_8, li_9, li_10, li_11, li_12, li_13, li_14, li_15, li_16, li_17, li_18, li_19, li_20, li_21, li_22, li_23, li_24, li_25, li_26, li_27, li_28, li_29, li_30, li_31, li_32, li_34, li_35, li_40, li_41, li_45, li_48, li_49, li_50, li_57, li_58, li_59, li_60, li_61, li_64, li_65, li_97, li_99, li_100, li_115, li_116, li_121, li_122, li_200, li_255, li_256, li_300, li_999, li_1000, li_12345, li_65535, li_1103515245, if_true, if_false, nI_add, pk_mul, pk_sub, s_div, s_rem, s_cl, p_le_t, p_le_f, p_lt_t, p_lt_f, p_eq_t, p_eq_f, bd1_s, bd2_s, bd3_s, nm_s, gd_t, gd_in, gd_nz, gd_bz0, gd_bz1, gd_cp, eN, ep, i2])), ?_⟩
      rw [← i3]
      (repeat (simp (disch := omega) only [li_0, li_1, li_2, li_3, li_4, li_5, li_6, li_7, li_8, li_9, li_10, li_11, li_12, li_13, li_14, li_15, li_16, li_17, li_18, li_19, li_20, li_21, li_22, li_23, li_24, li_25, li_26, li_27, li_28, li_29, li_30, li_31, li_32, li_34, li_35, li_40, li_41, li_45, li_48, li_49, li_50, li_57, li_58, li_59, li_60, li_61, li_64, li_65, li_97, li_99, li_100, li_115, li_116, li_121, li_122, li_200, li_255, li_256, li_300, li_999, li_1000, li_12345, li_65535, li_1103515245, if_true, if_false, nI_add, pk_mul, pk_sub, s_div, s_rem, s_cl, p_le_t, p_le_f, p_lt_t, p_lt_f, p_eq_t, p_eq_f, bd1_s, bd2_s, bd3_s, nm_s, gd_t, gd_in, gd_nz, gd_bz0, gd_bz1, gd_cp, eN, mp]))
    · cases c1 with
      | true =>
        have hc3 : c3 = false := by
          cases c3 with
          | false => rfl
          | true => exact absurd (cl2.mp rfl) (mb2.mp rfl).1
        subst hc3
        rw [bI_t] at cl1
        rw [bI_f] at mb1
        obtain ⟨best', held', i1, i2, i3⟩ := ih (σ + 1) m p best held (by omega) (by omega) (by omega) hbest
        refine ⟨best', held', i1, by (repeat (simp (disch := omega) only [li_0, li_1, li_2, li_3, li_4, li_5, li_6, li_7, li_8, li_9, li_10, li_11, li_12, li_13, li_14, li_15, li_16, li_17, li_18, li_19, li_20, li_21, li_22, li_23, li_24, li_25, li_26, li_27, li_28, li_29, li_30, li_31, li_32, li_34, li_35, li_40, li_41, li_45, li_48, li_49, li_50, li_57, li_58, li_59, li_60, li_61, li_64, li_65, li_97, li_99, li_100, li_115, li_116, li_121, li_122, li_200, li_255, li_256, li_300, li_999, li_1000, li_12345, li_65535, li_1103515245, if_true, if_false, nI_add, pk_mul, pk_sub, s_div, s_rem, s_cl, p_le_t, p_le_f, p_lt_t, p_lt_f, p_eq_t, p_eq_f, bd1_s, bd2_s, bd3_s, nm_s, gd_t, gd_in, gd_nz, gd_bz0, gd_bz1, gd_cp, eN, ep, cl1, i2])), ?_⟩
        rw [← i3]
        (repeat (simp (disch := omega) only [li_0, li_1, li_2, li_3, li_4, li_5, li_6, li_7, li_8, li_9, li_10, li_11, li_12, li_13, li_14, li_15, li_16, li_17, li_18, li_19, li_20, li_21, li_22, li_23, li_24, li_25, li_26, li_27, li_28, li_29, li_30, li_31, li_32, li_34, li_35, li_40, li_41, li_45, li_48, li_49, li_50, li_57, li_58, li_59, li_60, li_61, li_64, li_65, li_97, li_99, li_100, li_115, li_116, li_121, li_122, li_200, li_255, li_256, li_300, li_999, li_1000, li_12345, li_65535, li_1103515245, if_true, if_false, nI_add, pk_mul, pk_sub, s_div, s_rem, s_cl, p_le_t, p_le_f, p_lt_t, p_lt_f, p_eq_t, p_eq_f, bd1_s, bd2_s, bd3_s, nm_s, gd_t, gd_in, gd_nz, gd_bz0, gd_bz1, gd_cp, eN, mp, mb1]))
      | false =>
        rw [bI_f] at cl1
        have ncl : ¬ clashP n on od σ := fun e => by cases cl2.mpr e
        cases c2 with
        | true =>
          have hc3 : c3 = false := by
            cases c3 with
            | false => rfl
            | true =>
              rcases dk2.mp rfl with e | e
              · cases e
              · exact absurd e (mb2.mp rfl).2
          subst hc3
          rw [bI_t] at dk1
          rw [bI_f] at mb1
          obtain ⟨best', held', i1, i2, i3⟩ := ih (σ + 1) m p best w (by omega) (by omega) (by omega) hbest
          refine ⟨best', held', i1, by (repeat (simp (disch := omega) only [li_0, li_1, li_2, li_3, li_4, li_5, li_6, li_7, li_8, li_9, li_10, li_11, li_12, li_13, li_14, li_15, li_16, li_17, li_18, li_19, li_20, li_21, li_22, li_23, li_24, li_25, li_26, li_27, li_28, li_29, li_30, li_31, li_32, li_34, li_35, li_40, li_41, li_45, li_48, li_49, li_50, li_57, li_58, li_59, li_60, li_61, li_64, li_65, li_97, li_99, li_100, li_115, li_116, li_121, li_122, li_200, li_255, li_256, li_300, li_999, li_1000, li_12345, li_65535, li_1103515245, if_true, if_false, nI_add, pk_mul, pk_sub, s_div, s_rem, s_cl, p_le_t, p_le_f, p_lt_t, p_lt_f, p_eq_t, p_eq_f, bd1_s, bd2_s, bd3_s, nm_s, gd_t, gd_in, gd_nz, gd_bz0, gd_bz1, gd_cp, eN, ep, cl1, dk1, i2])), ?_⟩
          rw [← i3]
          (repeat (simp (disch := omega) only [li_0, li_1, li_2, li_3, li_4, li_5, li_6, li_7, li_8, li_9, li_10, li_11, li_12, li_13, li_14, li_15, li_16, li_17, li_18, li_19, li_20, li_21, li_22, li_23, li_24, li_25, li_26, li_27, li_28, li_29, li_30, li_31, li_32, li_34, li_35, li_40, li_41, li_45, li_48, li_49, li_50, li_57, li_58, li_59, li_60, li_61, li_64, li_65, li_97, li_99, li_100, li_115, li_116, li_121, li_122, li_200, li_255, li_256, li_300, li_999, li_1000, li_12345, li_65535, li_1103515245, if_true, if_false, nI_add, pk_mul, pk_sub, s_div, s_rem, s_cl, p_le_t, p_le_f, p_lt_t, p_lt_f, p_eq_t, p_eq_f, bd1_s, bd2_s, bd3_s, nm_s, gd_t, gd_in, gd_nz, gd_bz0, gd_bz1, gd_cp, eN, mp, mb1]))
        | false =>
          have hc3 : c3 = true := mb2.mpr ⟨ncl, fun e => by cases dk2.mpr (Or.inr e)⟩
          subst hc3
          rw [bI_f] at dk1
          rw [bI_t] at mb1
          obtain ⟨best', held', i1, i2, i3⟩ := ih (σ + 1) m p σ w (by omega) (by omega) (by omega) hs
          refine ⟨best', held', i1, by (repeat (simp (disch := omega) only [li_0, li_1, li_2, li_3, li_4, li_5, li_6, li_7, li_8, li_9, li_10, li_11, li_12, li_13, li_14, li_15, li_16, li_17, li_18, li_19, li_20, li_21, li_22, li_23, li_24, li_25, li_26, li_27, li_28, li_29, li_30, li_31, li_32, li_34, li_35, li_40, li_41, li_45, li_48, li_49, li_50, li_57, li_58, li_59, li_60, li_61, li_64, li_65, li_97, li_99, li_100, li_115, li_116, li_121, li_122, li_200, li_255, li_256, li_300, li_999, li_1000, li_12345, li_65535, li_1103515245, if_true, if_false, nI_add, pk_mul, pk_sub, s_div, s_rem, s_cl, p_le_t, p_le_f, p_lt_t, p_lt_f, p_eq_t, p_eq_f, bd1_s, bd2_s, bd3_s, nm_s, gd_t, gd_in, gd_nz, gd_bz0, gd_bz1, gd_cp, eN, ep, cl1, dk1, i2])), ?_⟩
          rw [← i3]
          (repeat (simp (disch := omega) only [li_0, li_1, li_2, li_3, li_4, li_5, li_6, li_7, li_8, li_9, li_10, li_11, li_12, li_13, li_14, li_15, li_16, li_17, li_18, li_19, li_20, li_21, li_22, li_23, li_24, li_25, li_26, li_27, li_28, li_29, li_30, li_31, li_32, li_34, li_35, li_40, li_41, li_45, li_48, li_49, li_50, li_57, li_58, li_59, li_60, li_61, li_64, li_65, li_97, li_99, li_100, li_115, li_116, li_121, li_122, li_200, li_255, li_256, li_300, li_999, li_1000, li_12345, li_65535, li_1103515245, if_true, if_false, nI_add, pk_mul, pk_sub, s_div, s_rem, s_cl, p_le_t, p_le_f, p_lt_t, p_lt_f, p_eq_t, p_eq_f, bd1_s, bd2_s, bd3_s, nm_s, gd_t, gd_in, gd_nz, gd_bz0, gd_bz1, gd_cp, eN, mp, mb1, Nat.zero_add]))
end LT2
theorem pm_letting (v : Nat → Int32) (r : Nat → Nat → Int32) (t : Int64) (vm : Nat → Int32) (rm : Nat → Nat → Int32) (tm : Int64) (hI : Inv v r t vm rm tm) (g1 : Int32) (g2 : Int32) (g3 : Int32) : ∃ (R0 : Int32) (w0 : Nat → Int32) (w1 : Nat → Int32) (z0 : Int32), f_X8_letting (v 5) (v 6) (r 3) (r 2) (r 29) (v 34) (r 26) (r 28) (r 30) (r 25) (r 27) g1 g2 g3 = some (R0, w0, w1) ∧ f_X9_letting (vm 0) (vm 7) (vm 8) (vm 9) (vm 14) (rm 7) (rm 1) g1 g2 g3 = some (R0, z0) ∧ Inv v (updA (updA r 29 w0) 30 w1) t (upd vm 0 z0) rm tm := by
  obtain ⟨n, ns, nt, sa, sp, sb, hS, hT, hN, hI0, hI1, ⟨on, od, op, o1, o2, o3, o4⟩, hEe, htr, m8, m13, m17, m19, m33⟩ := id hI
  obtain ⟨b1, b2, b3, b4, s1, s2, s3, s4, s5, s6, hst⟩ := id hS
  have hany : ∀ (w0 w1 : Nat → Int32) (z : Int32), Inv v (updA (updA r 29 w0) 30 w1) t (upd vm 0 z) rm tm := fun w0 w1 z => ⟨n, ns, nt, sa, sp, sb, hS, hT, hN, hI0, hI1, ⟨on, od, op, o1, o2, o3, o4⟩, hEe, htr, m8, m13, m17, m19, m33⟩
  have hK : LK n ns nt on sa sp od op (r 2) (r 3) (r 25) (r 26) (r 27) (r 28) (rm 1) (rm 7) := ⟨b1, b2, b3, b4, o1, fun j hj => (hst j hj).1, fun j d hj hd => ⟨x_squareOf hS hj hd, m_squareOf hS hj hd⟩, o4⟩
  unfold f_X8_letting f_X9_letting f_X8_areNights
  rw [s1, s2, s3, s4, s6, o2, o3, in_eq]
  simp only [li_0, li_1, li_2, li_3, li_4, li_5, li_6, li_7, li_8, li_9, li_10, li_11, li_12, li_13, li_14, li_15, li_16, li_17, li_18, li_19, li_20, li_21, li_22, li_23, li_24, li_25, li_26, li_27, li_28, li_29, li_30, li_31, li_32, li_34, li_35, li_40, li_41, li_45, li_48, li_49, li_50, li_57, li_58, li_59, li_60, li_61, li_64, li_65, li_97, li_99, li_100, li_115, li_116, li_121, li_122, li_200, li_255, li_256, li_300, li_999, li_1000, li_12345, li_65535, li_1103515245]
  rcases num_cases g1 100 (by decide) with ho | ⟨a, ha, rfl⟩
  · exact ⟨-1, r 29, r 30, nI 0, by rw [wi_out (by decide) (by decide) ho]; (repeat (simp (disch := omega) only [li_0, li_1, li_2, li_3, li_4, li_5, li_6, li_7, li_8, li_9, li_10, li_11, li_12, li_13, li_14, li_15, li_16, li_17, li_18, li_19, li_20, li_21, li_22, li_23, li_24, li_25, li_26, li_27, li_28, li_29, li_30, li_31, li_32, li_34, li_35, li_40, li_41, li_45, li_48, li_49, li_50, li_57, li_58, li_59, li_60, li_61, li_64, li_65, li_97, li_99, li_100, li_115, li_116, li_121, li_122, li_200, li_255, li_256, li_300, li_999, li_1000, li_12345, li_65535, li_1103515245, if_true, if_false, nI_add, pk_mul, pk_sub, s_div, s_rem, s_cl, p_le_t, p_le_f, p_lt_t, p_lt_f, p_eq_t, p_eq_f, bd1_s, bd2_s, bd3_s, nm_s, gd_t, gd_in, gd_nz, gd_bz0, gd_bz1, gd_cp])), by rw [mNight_out ho]; (repeat (simp (disch := omega) only [li_0, li_1, li_2, li_3, li_4, li_5, li_6, li_7, li_8, li_9, li_10, li_11, li_12, li_13, li_14, li_15, li_16, li_17, li_18, li_19, li_20, li_21, li_22, li_23, li_24, li_25, li_26, li_27, li_28, li_29, li_30, li_31, li_32, li_34, li_35, li_40, li_41, li_45, li_48, li_49, li_50, li_57, li_58, li_59, li_60, li_61, li_64, li_65, li_97, li_99, li_100, li_115, li_116, li_121, li_122, li_200, li_255, li_256, li_300, li_999, li_1000, li_12345, li_65535, li_1103515245, if_true, if_false, nI_add, pk_mul, pk_sub, s_div, s_rem, s_cl, p_le_t, p_le_f, p_lt_t, p_lt_f, p_eq_t, p_eq_f, bd1_s, bd2_s, bd3_s, nm_s, gd_t, gd_in, gd_nz, gd_bz0, gd_bz1, gd_cp])), hany _ _ _⟩
  rw [wi_in (a := 0) (c := 99) (show 0 ≤ a by omega) (by omega) (by decide), mNight_in ha]
  rcases num_cases g2 100 (by decide) with ho | ⟨b, hb, rfl⟩
  · have w := wi_out (a := a) (c := 99) (by omega) (by decide) ho
    exact ⟨-1, r 29, r 30, nI 0, by rw [w]; (repeat (simp (disch := omega) only [li_0, li_1, li_2, li_3, li_4, li_5, li_6, li_7, li_8, li_9, li_10, li_11, li_12, li_13, li_14, li_15, li_16, li_17, li_18, li_19, li_20, li_21, li_22, li_23, li_24, li_25, li_26, li_27, li_28, li_29, li_30, li_31, li_32, li_34, li_35, li_40, li_41, li_45, li_48, li_49, li_50, li_57, li_58, li_59, li_60, li_61, li_64, li_65, li_97, li_99, li_100, li_115, li_116, li_121, li_122, li_200, li_255, li_256, li_300, li_999, li_1000, li_12345, li_65535, li_1103515245, if_true, if_false, nI_add, pk_mul, pk_sub, s_div, s_rem, s_cl, p_le_t, p_le_f, p_lt_t, p_lt_f, p_eq_t, p_eq_f, bd1_s, bd2_s, bd3_s, nm_s, gd_t, gd_in, gd_nz, gd_bz0, gd_bz1, gd_cp])), by rw [w]; (repeat (simp (disch := omega) only [li_0, li_1, li_2, li_3, li_4, li_5, li_6, li_7, li_8, li_9, li_10, li_11, li_12, li_13, li_14, li_15, li_16, li_17, li_18, li_19, li_20, li_21, li_22, li_23, li_24, li_25, li_26, li_27, li_28, li_29, li_30, li_31, li_32, li_34, li_35, li_40, li_41, li_45, li_48, li_49, li_50, li_57, li_58, li_59, li_60, li_61, li_64, li_65, li_97, li_99, li_100, li_115, li_116, li_121, li_122, li_200, li_255, li_256, li_300, li_999, li_1000, li_12345, li_65535, li_1103515245, if_true, if_false, nI_add, pk_mul, pk_sub, s_div, s_rem, s_cl, p_le_t, p_le_f, p_lt_t, p_lt_f, p_eq_t, p_eq_f, bd1_s, bd2_s, bd3_s, nm_s, gd_t, gd_in, gd_nz, gd_bz0, gd_bz1, gd_cp])), hany _ _ _⟩
  by_cases hab : a ≤ b
  · have w := wi_in hab (show b ≤ 99 by omega) (by decide)
    rw [w]
    rcases num_cases g3 2 (by decide) with ho | ⟨c, hc, rfl⟩
    · have w2 := wi_out (a := 0) (c := 1) (by decide) (by decide) ho
      exact ⟨-1, r 29, r 30, nI 0, by rw [w2]; (repeat (simp (disch := omega) only [li_0, li_1, li_2, li_3, li_4, li_5, li_6, li_7, li_8, li_9, li_10, li_11, li_12, li_13, li_14, li_15, li_16, li_17, li_18, li_19, li_20, li_21, li_22, li_23, li_24, li_25, li_26, li_27, li_28, li_29, li_30, li_31, li_32, li_34, li_35, li_40, li_41, li_45, li_48, li_49, li_50, li_57, li_58, li_59, li_60, li_61, li_64, li_65, li_97, li_99, li_100, li_115, li_116, li_121, li_122, li_200, li_255, li_256, li_300, li_999, li_1000, li_12345, li_65535, li_1103515245, if_true, if_false, nI_add, pk_mul, pk_sub, s_div, s_rem, s_cl, p_le_t, p_le_f, p_lt_t, p_lt_f, p_eq_t, p_eq_f, bd1_s, bd2_s, bd3_s, nm_s, gd_t, gd_in, gd_nz, gd_bz0, gd_bz1, gd_cp])), by rw [w2]; (repeat (simp (disch := omega) only [li_0, li_1, li_2, li_3, li_4, li_5, li_6, li_7, li_8, li_9, li_10, li_11, li_12, li_13, li_14, li_15, li_16, li_17, li_18, li_19, li_20, li_21, li_22, li_23, li_24, li_25, li_26, li_27, li_28, li_29, li_30, li_31, li_32, li_34, li_35, li_40, li_41, li_45, li_48, li_49, li_50, li_57, li_58, li_59, li_60, li_61, li_64, li_65, li_97, li_99, li_100, li_115, li_116, li_121, li_122, li_200, li_255, li_256, li_300, li_999, li_1000, li_12345, li_65535, li_1103515245, if_true, if_false, nI_add, pk_mul, pk_sub, s_div, s_rem, s_cl, p_le_t, p_le_f, p_lt_t, p_lt_f, p_eq_t, p_eq_f, bd1_s, bd2_s, bd3_s, nm_s, gd_t, gd_in, gd_nz, gd_bz0, gd_bz1, gd_cp])), hany _ _ _⟩
    have w2 := wi_in (j := c) (a := 0) (c := 1) (by omega) (by omega) (by decide)
    rw [w2]
    obtain ⟨star', e1, e2⟩ := x_best3 hK (a := a) (b := b) (by omega) (r 30) (b + 1 - a) a zF (r 29) (Nat.le_refl a) (by omega) (by unfold zF; omega) (fun d' q1 q2 => by omega)
    have hp : 2 ^ on ≤ 2 ^ 8 := Nat.pow_le_pow_right (by decide) o1
    obtain ⟨best', held', i1, i2, i3⟩ := let_loop hK hab (show b ≤ 99 by omega) e2 (nI c) (nI 0) rfl hp (2 ^ on - 1) 1 zF zF 0 (r 30) (by have := Nat.two_pow_pos on; omega) (by unfold zF; omega) (by unfold zF; omega) (by decide)
    have e0 : prN op 0 on 0 = 0 := by
      have : ∀ r k, prN op 0 r k = 0 := by
        intro r
        induction r with
        | zero => intro k; rfl
        | succ r ih =>
          intro k
          rw [prN, ih, Nat.zero_testBit, if_neg (show ¬ false = true by decide)]
      exact this on 0
    rw [e0] at i2 i3
    have ep := x_priceOf hK i1
    by_cases hc0 : c = 0
    · subst hc0
      refine ⟨nI (prN op best' on 0), star', held', nI 0, ?_, ?_, hany _ _ _⟩
      · unfold f_X1_bestSet
        (repeat (simp (disch := omega) only [li_0, li_1, li_2, li_3, li_4, li_5, li_6, li_7, li_8, li_9, li_10, li_11, li_12, li_13, li_14, li_15, li_16, li_17, li_18, li_19, li_20, li_21, li_22, li_23, li_24, li_25, li_26, li_27, li_28, li_29, li_30, li_31, li_32, li_34, li_35, li_40, li_41, li_45, li_48, li_49, li_50, li_57, li_58, li_59, li_60, li_61, li_64, li_65, li_97, li_99, li_100, li_115, li_116, li_121, li_122, li_200, li_255, li_256, li_300, li_999, li_1000, li_12345, li_65535, li_1103515245, if_true, if_false, nI_add, pk_mul, pk_sub, s_div, s_rem, s_cl, p_le_t, p_le_f, p_lt_t, p_lt_f, p_eq_t, p_eq_f, bd1_s, bd2_s, bd3_s, nm_s, gd_t, gd_in, gd_nz, gd_bz0, gd_bz1, gd_cp, e1, i2, ep]))
      · (repeat (simp (disch := omega) only [li_0, li_1, li_2, li_3, li_4, li_5, li_6, li_7, li_8, li_9, li_10, li_11, li_12, li_13, li_14, li_15, li_16, li_17, li_18, li_19, li_20, li_21, li_22, li_23, li_24, li_25, li_26, li_27, li_28, li_29, li_30, li_31, li_32, li_34, li_35, li_40, li_41, li_45, li_48, li_49, li_50, li_57, li_58, li_59, li_60, li_61, li_64, li_65, li_97, li_99, li_100, li_115, li_116, li_121, li_122, li_200, li_255, li_256, li_300, li_999, li_1000, li_12345, li_65535, li_1103515245, if_true, if_false, nI_add, pk_mul, pk_sub, s_div, s_rem, s_cl, p_le_t, p_le_f, p_lt_t, p_lt_f, p_eq_t, p_eq_f, bd1_s, bd2_s, bd3_s, nm_s, gd_t, gd_in, gd_nz, gd_bz0, gd_bz1, gd_cp, i3]))
    · refine ⟨nI best', star', held', nI 0, ?_, ?_, hany _ _ _⟩
      · unfold f_X1_bestSet
        (repeat (simp (disch := omega) only [li_0, li_1, li_2, li_3, li_4, li_5, li_6, li_7, li_8, li_9, li_10, li_11, li_12, li_13, li_14, li_15, li_16, li_17, li_18, li_19, li_20, li_21, li_22, li_23, li_24, li_25, li_26, li_27, li_28, li_29, li_30, li_31, li_32, li_34, li_35, li_40, li_41, li_45, li_48, li_49, li_50, li_57, li_58, li_59, li_60, li_61, li_64, li_65, li_97, li_99, li_100, li_115, li_116, li_121, li_122, li_200, li_255, li_256, li_300, li_999, li_1000, li_12345, li_65535, li_1103515245, if_true, if_false, nI_add, pk_mul, pk_sub, s_div, s_rem, s_cl, p_le_t, p_le_f, p_lt_t, p_lt_f, p_eq_t, p_eq_f, bd1_s, bd2_s, bd3_s, nm_s, gd_t, gd_in, gd_nz, gd_bz0, gd_bz1, gd_cp, e1, i2]))
      · (repeat (simp (disch := omega) only [li_0, li_1, li_2, li_3, li_4, li_5, li_6, li_7, li_8, li_9, li_10, li_11, li_12, li_13, li_14, li_15, li_16, li_17, li_18, li_19, li_20, li_21, li_22, li_23, li_24, li_25, li_26, li_27, li_28, li_29, li_30, li_31, li_32, li_34, li_35, li_40, li_41, li_45, li_48, li_49, li_50, li_57, li_58, li_59, li_60, li_61, li_64, li_65, li_97, li_99, li_100, li_115, li_116, li_121, li_122, li_200, li_255, li_256, li_300, li_999, li_1000, li_12345, li_65535, li_1103515245, if_true, if_false, nI_add, pk_mul, pk_sub, s_div, s_rem, s_cl, p_le_t, p_le_f, p_lt_t, p_lt_f, p_eq_t, p_eq_f, bd1_s, bd2_s, bd3_s, nm_s, gd_t, gd_in, gd_nz, gd_bz0, gd_bz1, gd_cp, i3]))
  · have w := wi_no (j := b) (a := a) (c := 99) (by omega) (by omega) (by omega)
    exact ⟨-1, r 29, r 30, nI 0, by rw [w]; (repeat (simp (disch := omega) only [li_0, li_1, li_2, li_3, li_4, li_5, li_6, li_7, li_8, li_9, li_10, li_11, li_12, li_13, li_14, li_15, li_16, li_17, li_18, li_19, li_20, li_21, li_22, li_23, li_24, li_25, li_26, li_27, li_28, li_29, li_30, li_31, li_32, li_34, li_35, li_40, li_41, li_45, li_48, li_49, li_50, li_57, li_58, li_59, li_60, li_61, li_64, li_65, li_97, li_99, li_100, li_115, li_116, li_121, li_122, li_200, li_255, li_256, li_300, li_999, li_1000, li_12345, li_65535, li_1103515245, if_true, if_false, nI_add, pk_mul, pk_sub, s_div, s_rem, s_cl, p_le_t, p_le_f, p_lt_t, p_lt_f, p_eq_t, p_eq_f, bd1_s, bd2_s, bd3_s, nm_s, gd_t, gd_in, gd_nz, gd_bz0, gd_bz1, gd_cp])), by rw [w]; (repeat (simp (disch := omega) only [li_0, li_1, li_2, li_3, li_4, li_5, li_6, li_7, li_8, li_9, li_10, li_11, li_12, li_13, li_14, li_15, li_16, li_17, li_18, li_19, li_20, li_21, li_22, li_23, li_24, li_25, li_26, li_27, li_28, li_29, li_30, li_31, li_32, li_34, li_35, li_40, li_41, li_45, li_48, li_49, li_50, li_57, li_58, li_59, li_60, li_61, li_64, li_65, li_97, li_99, li_100, li_115, li_116, li_121, li_122, li_200, li_255, li_256, li_300, li_999, li_1000, li_12345, li_65535, li_1103515245, if_true, if_false, nI_add, pk_mul, pk_sub, s_div, s_rem, s_cl, p_le_t, p_le_f, p_lt_t, p_lt_f, p_eq_t, p_eq_f, bd1_s, bd2_s, bd3_s, nm_s, gd_t, gd_in, gd_nz, gd_bz0, gd_bz1, gd_cp])), hany _ _ _⟩
