/-! numbers and items, by both -/
theorem bd5_s {T0 T1 T2 T3 T4 γ : Type} (x0 : T0) (x1 : T1) (x2 : T2) (x3 : T3) (x4 : T4) (k : T0 → T1 → T2 → T3 → T4 → Option γ) : bd5 (some (x0, x1, x2, x3, x4)) k = k x0 x1 x2 x3 x4 := id rfl
theorem bd6_s {T0 T1 T2 T3 T4 T5 γ : Type} (x0 : T0) (x1 : T1) (x2 : T2) (x3 : T3) (x4 : T4) (x5 : T5) (k : T0 → T1 → T2 → T3 → T4 → T5 → Option γ) : bd6 (some (x0, x1, x2, x3, x4, x5)) k = k x0 x1 x2 x3 x4 x5 := id rfl
theorem bd9_s {T0 T1 T2 T3 T4 T5 T6 T7 T8 γ : Type} (x0 : T0) (x1 : T1) (x2 : T2) (x3 : T3) (x4 : T4) (x5 : T5) (x6 : T6) (x7 : T7) (x8 : T8) (k : T0 → T1 → T2 → T3 → T4 → T5 → T6 → T7 → T8 → Option γ) : bd9 (some (x0, x1, x2, x3, x4, x5, x6, x7, x8)) k = k x0 x1 x2 x3 x4 x5 x6 x7 x8 := id rfl
theorem bd12_s {T0 T1 T2 T3 T4 T5 T6 T7 T8 T9 T10 T11 γ : Type} (x0 : T0) (x1 : T1) (x2 : T2) (x3 : T3) (x4 : T4) (x5 : T5) (x6 : T6) (x7 : T7) (x8 : T8) (x9 : T9) (x10 : T10) (x11 : T11) (k : T0 → T1 → T2 → T3 → T4 → T5 → T6 → T7 → T8 → T9 → T10 → T11 → Option γ) : bd12 (some (x0, x1, x2, x3, x4, x5, x6, x7, x8, x9, x10, x11)) k = k x0 x1 x2 x3 x4 x5 x6 x7 x8 x9 x10 x11 := id rfl
theorem bd15_s {T0 T1 T2 T3 T4 T5 T6 T7 T8 T9 T10 T11 T12 T13 T14 γ : Type} (x0 : T0) (x1 : T1) (x2 : T2) (x3 : T3) (x4 : T4) (x5 : T5) (x6 : T6) (x7 : T7) (x8 : T8) (x9 : T9) (x10 : T10) (x11 : T11) (x12 : T12) (x13 : T13) (x14 : T14) (k : T0 → T1 → T2 → T3 → T4 → T5 → T6 → T7 → T8 → T9 → T10 → T11 → T12 → T13 → T14 → Option γ) : bd15 (some (x0, x1, x2, x3, x4, x5, x6, x7, x8, x9, x10, x11, x12, x13, x14)) k = k x0 x1 x2 x3 x4 x5 x6 x7 x8 x9 x10 x11 x12 x13 x14 := id rfl
def wI (x lo hi : Int32) : Bool := decide (¬ x < lo) && decide (¬ hi < x)
theorem wi_I (x lo hi : Int32) : f_X8_isWithin x lo hi = some (bI (wI x lo hi)) := by
  unfold f_X8_isWithin wI
  by_cases h1 : x < lo
  · rw [if_pos h1, decide_eq_false (fun e => e h1), Bool.false_and]; rfl
  · rw [if_neg h1, decide_eq_true h1, Bool.true_and]
    by_cases h2 : hi < x
    · rw [if_pos h2, decide_eq_false (fun e => e h2)]; rfl
    · rw [if_neg h2, decide_eq_true h2]; rfl
theorem wI_le {u lo hi : Nat} (hu : u < 1000000) (hl : lo < 1000000) (hh : hi < 1000000) (h : wI (nI u) (nI lo) (nI hi) = true) : lo ≤ u ∧ u ≤ hi := by
  unfold wI at h
  rw [Bool.and_eq_true, decide_eq_true_iff, decide_eq_true_iff] at h
  refine ⟨?_, ?_⟩
  · rcases Nat.lt_or_ge u lo with e | e
    · exact absurd (nI_lt e (by omega)) h.1
    · exact e
  · rcases Nat.lt_or_ge hi u with e | e
    · exact absurd (nI_lt e (by omega)) h.2
    · exact e
theorem wI_T {u n : Nat} (hu : u < 1000000) (hn : n < 1000000) (h : wI (nI u) (nI 0) (nI n - nI 1) = true) : u < n := by
  unfold wI at h
  rw [Bool.and_eq_true, decide_eq_true_iff, decide_eq_true_iff] at h
  have h2 := h.2
  rw [Int32.lt_iff_toInt_lt, pk_sub_toInt (by omega) (by decide), toI_nI (by omega)] at h2
  omega
def MS (len : Nat) (bytes text : Nat → Int32) (q : Nat) (nx tk pl val : Int32) : Prop := ∃ K p x num, TS len bytes text q K p x num ∧ nx = nI x ∧ tk = nI (mt K) ∧ pl = nI p ∧ (K = 2 → val = nI num) ∧ (4 ≤ K → val = nI (K - 4))
theorem mt_le (K : Nat) : mt K ≤ 4 := by
  unfold mt
  by_cases h0 : K = 0
  · rw [if_pos h0]; decide
  · rw [if_neg h0]
    by_cases h1 : K = 1
    · rw [if_pos h1]; decide
    · rw [if_neg h1]
      by_cases h2 : K = 2
      · rw [if_pos h2]; decide
      · rw [if_neg h2]
        by_cases h3 : K = 3
        · rw [if_pos h3]; decide
        · rw [if_neg h3]; decide
theorem mt_iff (K : Nat) : (mt K = 0 ↔ K = 0) ∧ (mt K = 2 ↔ K = 2) ∧ (mt K = 3 ↔ K = 3) ∧ (mt K = 1 ↔ 4 ≤ K) := by
  by_cases h0 : K = 0
  · rw [h0, mt_0]; omega
  · by_cases h1 : K = 1
    · rw [h1, mt_1]; omega
    · by_cases h2 : K = 2
      · rw [h2, mt_2]; omega
      · by_cases h3 : K = 3
        · rw [h3, mt_3]; omega
        · rw [mt_w (by omega)]; omega
section RD
variable {len : Nat} {b : Nat → Nat} {bytes text : Nat → Int32}
theorem ms_adv (hB : gB len b bytes text) {q : Nat} (hq : q ≤ len) (tk0 plc val : Int32) : ∃ n' t' p' v' : Int32, f_X9_advances (nI len) (nI q) tk0 plc val text = some (n', t', p', v') ∧ MS len bytes text q n' t' p' v' := by
  obtain ⟨K, p, x, num, hT⟩ := tok hB hq
  obtain ⟨v', e1, e2, e3⟩ := hT.2.2.2.2.2.2.2 tk0 plc val
  exact ⟨nI x, nI (mt K), nI p, v', e1, K, p, x, num, hT, rfl, rfl, rfl, e2, e3⟩
theorem takes0 (nx tk pl val : Int32) : f_X9_takes (nI len) nx tk pl val (-nI 1) text (nI 0) = some (nI 0, nx, tk, pl, val, pl) := by
  unfold f_X9_takes f_X9_isWell
  (repeat (simp (disch := omega) only [li_0, li_1, li_2, li_3, li_4, li_5, li_6, li_7, li_8, li_9, li_10, li_11, li_12, li_13, li_14, li_15, li_16, li_17, li_18, li_19, li_20, li_21, li_22, li_23, li_24, li_25, li_26, li_27, li_28, li_29, li_30, li_31, li_32, li_34, li_35, li_40, li_41, li_45, li_48, li_49, li_50, li_57, li_58, li_59, li_60, li_61, li_64, li_65, li_97, li_99, li_100, li_115, li_116, li_121, li_122, li_200, li_255, li_256, li_300, li_999, li_1000, li_12345, li_65535, li_1103515245, if_true, if_false, nI_add, pk_mul, pk_sub, s_div, s_rem, s_cl, p_le_t, p_le_f, p_lt_t, p_lt_f, p_eq_t, p_eq_f, bd1_s, bd2_s, bd3_s, nm_s, gd_t, gd_in, gd_nz, gd_bz0, gd_bz1, gd_cp, m1_0]))
theorem takes1 (hB : gB len b bytes text) {x : Nat} (hx : x ≤ len) (tk pl val : Int32) : ∃ n' t' p' v' : Int32, f_X9_takes (nI len) (nI x) tk pl val (-nI 1) text (nI 1) = some (val, n', t', p', v', -nI 1) ∧ MS len bytes text x n' t' p' v' := by
  obtain ⟨n', t', p', v', e, hM⟩ := ms_adv hB hx tk pl val
  refine ⟨n', t', p', v', ?_, hM⟩
  unfold f_X9_takes f_X9_isWell
  (repeat (simp (disch := omega) only [li_0, li_1, li_2, li_3, li_4, li_5, li_6, li_7, li_8, li_9, li_10, li_11, li_12, li_13, li_14, li_15, li_16, li_17, li_18, li_19, li_20, li_21, li_22, li_23, li_24, li_25, li_26, li_27, li_28, li_29, li_30, li_31, li_32, li_34, li_35, li_40, li_41, li_45, li_48, li_49, li_50, li_57, li_58, li_59, li_60, li_61, li_64, li_65, li_97, li_99, li_100, li_115, li_116, li_121, li_122, li_200, li_255, li_256, li_300, li_999, li_1000, li_12345, li_65535, li_1103515245, if_true, if_false, nI_add, pk_mul, pk_sub, s_div, s_rem, s_cl, p_le_t, p_le_f, p_lt_t, p_lt_f, p_eq_t, p_eq_f, bd1_s, bd2_s, bd3_s, nm_s, gd_t, gd_in, gd_nz, gd_bz0, gd_bz1, gd_cp, m1_0, e, bd4_s]))
theorem takesD {p : Nat} (hp : p < 1000000) (nx tk pl val t1 : Int32) : f_X9_takes (nI len) nx tk pl val (nI p) text t1 = some (nI 0, nx, tk, pl, val, nI p) := by
  unfold f_X9_takes f_X9_isWell
  (repeat (simp (disch := omega) only [li_0, li_1, li_2, li_3, li_4, li_5, li_6, li_7, li_8, li_9, li_10, li_11, li_12, li_13, li_14, li_15, li_16, li_17, li_18, li_19, li_20, li_21, li_22, li_23, li_24, li_25, li_26, li_27, li_28, li_29, li_30, li_31, li_32, li_34, li_35, li_40, li_41, li_45, li_48, li_49, li_50, li_57, li_58, li_59, li_60, li_61, li_64, li_65, li_97, li_99, li_100, li_115, li_116, li_121, li_122, li_200, li_255, li_256, li_300, li_999, li_1000, li_12345, li_65535, li_1103515245, if_true, if_false, nI_add, pk_mul, pk_sub, s_div, s_rem, s_cl, p_le_t, p_le_f, p_lt_t, p_lt_f, p_eq_t, p_eq_f, bd1_s, bd2_s, bd3_s, nm_s, gd_t, gd_in, gd_nz, gd_bz0, gd_bz1, gd_cp]))
theorem num_dead {p : Nat} (hp : p < 1000000) (nx tk pl val lo hi : Int32) : f_X9_number (nI len) nx tk pl val (nI p) text lo hi = some (nI 0, nx, tk, pl, val, nI p) := by
  have e := fun t1 => takesD (len := len) (text := text) hp nx tk pl val t1
  unfold f_X9_number f_X9_number_b25 f_X9_number_b26
  rw [in_eq, wi_I]
  by_cases h : tk = 2
  · cases wI val lo hi with
    | true =>
      rw [if_pos h]
      (repeat (simp (disch := omega) only [li_0, li_1, li_2, li_3, li_4, li_5, li_6, li_7, li_8, li_9, li_10, li_11, li_12, li_13, li_14, li_15, li_16, li_17, li_18, li_19, li_20, li_21, li_22, li_23, li_24, li_25, li_26, li_27, li_28, li_29, li_30, li_31, li_32, li_34, li_35, li_40, li_41, li_45, li_48, li_49, li_50, li_57, li_58, li_59, li_60, li_61, li_64, li_65, li_97, li_99, li_100, li_115, li_116, li_121, li_122, li_200, li_255, li_256, li_300, li_999, li_1000, li_12345, li_65535, li_1103515245, if_true, if_false, nI_add, pk_mul, pk_sub, s_div, s_rem, s_cl, p_le_t, p_le_f, p_lt_t, p_lt_f, p_eq_t, p_eq_f, bd1_s, bd2_s, bd3_s, nm_s, gd_t, gd_in, gd_nz, gd_bz0, gd_bz1, gd_cp, bI_t, e, bd6_s]))
    | false =>
      rw [if_pos h]
      (repeat (simp (disch := omega) only [li_0, li_1, li_2, li_3, li_4, li_5, li_6, li_7, li_8, li_9, li_10, li_11, li_12, li_13, li_14, li_15, li_16, li_17, li_18, li_19, li_20, li_21, li_22, li_23, li_24, li_25, li_26, li_27, li_28, li_29, li_30, li_31, li_32, li_34, li_35, li_40, li_41, li_45, li_48, li_49, li_50, li_57, li_58, li_59, li_60, li_61, li_64, li_65, li_97, li_99, li_100, li_115, li_116, li_121, li_122, li_200, li_255, li_256, li_300, li_999, li_1000, li_12345, li_65535, li_1103515245, if_true, if_false, nI_add, pk_mul, pk_sub, s_div, s_rem, s_cl, p_le_t, p_le_f, p_lt_t, p_lt_f, p_eq_t, p_eq_f, bd1_s, bd2_s, bd3_s, nm_s, gd_t, gd_in, gd_nz, gd_bz0, gd_bz1, gd_cp, bI_f, e, bd6_s]))
  · rw [if_neg h]
    (repeat (simp (disch := omega) only [li_0, li_1, li_2, li_3, li_4, li_5, li_6, li_7, li_8, li_9, li_10, li_11, li_12, li_13, li_14, li_15, li_16, li_17, li_18, li_19, li_20, li_21, li_22, li_23, li_24, li_25, li_26, li_27, li_28, li_29, li_30, li_31, li_32, li_34, li_35, li_40, li_41, li_45, li_48, li_49, li_50, li_57, li_58, li_59, li_60, li_61, li_64, li_65, li_97, li_99, li_100, li_115, li_116, li_121, li_122, li_200, li_255, li_256, li_300, li_999, li_1000, li_12345, li_65535, li_1103515245, if_true, if_false, nI_add, pk_mul, pk_sub, s_div, s_rem, s_cl, p_le_t, p_le_f, p_lt_t, p_lt_f, p_eq_t, p_eq_f, bd1_s, bd2_s, bd3_s, nm_s, gd_t, gd_in, gd_nz, gd_bz0, gd_bz1, gd_cp, e, bd6_s]))
theorem num_step (hB : gB len b bytes text) {q : Nat} {nx tk pl val : Int32} (hM : MS len bytes text q nx tk pl val) (lo hi : Int32) :
    (∃ (num x : Nat) (p' n' t' pl' v' : Int32), num ≤ 99 ∧ q < x ∧ x ≤ len ∧ wI (nI num) lo hi = true ∧ (∀ tok plc numb : Int32, f_X7_readToken (nI len) tok plc numb (nI q) bytes = some (nI 2, p', nI num, nI x)) ∧ f_X9_number (nI len) nx tk pl val (-nI 1) text lo hi = some (nI num, n', t', pl', v', -nI 1) ∧ MS len bytes text x n' t' pl' v')
    ∨ (∃ (K p : Nat) (x : Int32), p ≤ len ∧ (∀ tok plc numb : Int32, ∃ num' : Int32, f_X7_readToken (nI len) tok plc numb (nI q) bytes = some (nI K, nI p, num', x) ∧ K ≤ 7 ∧ (K = 2 → wI num' lo hi = false)) ∧ f_X9_number (nI len) nx tk pl val (-nI 1) text lo hi = some (nI 0, nx, tk, pl, val, nI p)) := by
  obtain ⟨K, p, x, num, hT, rfl, rfl, rfl, hv2, hv4⟩ := hM
  obtain ⟨t1, t2, t3, t4, t5, t6, t7, t8⟩ := id hT
  by_cases hK : K = 2
  · subst hK
    have hv := hv2 rfl
    subst hv
    cases hw : wI (nI num) lo hi with
    | true =>
      obtain ⟨n', t', p', v', e, hM⟩ := takes1 hB t4 (nI 2) (nI p) (nI num)
      refine Or.inl ⟨num, x, nI p, n', t', p', v', t6 rfl, t5 (by decide), t4, hw, fun tok plc numb => ?_, ?_, hM⟩
      · obtain ⟨num', u1, u2⟩ := t7 tok plc numb
        rw [u1, u2 rfl]
      · unfold f_X9_number f_X9_number_b25 f_X9_number_b26
        rw [in_eq, wi_I, hw]
        (repeat (simp (disch := omega) only [li_0, li_1, li_2, li_3, li_4, li_5, li_6, li_7, li_8, li_9, li_10, li_11, li_12, li_13, li_14, li_15, li_16, li_17, li_18, li_19, li_20, li_21, li_22, li_23, li_24, li_25, li_26, li_27, li_28, li_29, li_30, li_31, li_32, li_34, li_35, li_40, li_41, li_45, li_48, li_49, li_50, li_57, li_58, li_59, li_60, li_61, li_64, li_65, li_97, li_99, li_100, li_115, li_116, li_121, li_122, li_200, li_255, li_256, li_300, li_999, li_1000, li_12345, li_65535, li_1103515245, if_true, if_false, nI_add, pk_mul, pk_sub, s_div, s_rem, s_cl, p_le_t, p_le_f, p_lt_t, p_lt_f, p_eq_t, p_eq_f, bd1_s, bd2_s, bd3_s, nm_s, gd_t, gd_in, gd_nz, gd_bz0, gd_bz1, gd_cp, mt_2, bI_t, e, bd6_s]))
    | false =>
      refine Or.inr ⟨2, p, nI x, by omega, fun tok plc numb => ?_, ?_⟩
      · obtain ⟨num', u1, u2⟩ := t7 tok plc numb
        exact ⟨num', u1, t1, fun _ => by rw [u2 rfl]; exact hw⟩
      · have e := takes0 (len := len) (text := text) (nI x) (nI 2) (nI p) (nI num)
        unfold f_X9_number f_X9_number_b25 f_X9_number_b26
        rw [in_eq, wi_I, hw]
        (repeat (simp (disch := omega) only [li_0, li_1, li_2, li_3, li_4, li_5, li_6, li_7, li_8, li_9, li_10, li_11, li_12, li_13, li_14, li_15, li_16, li_17, li_18, li_19, li_20, li_21, li_22, li_23, li_24, li_25, li_26, li_27, li_28, li_29, li_30, li_31, li_32, li_34, li_35, li_40, li_41, li_45, li_48, li_49, li_50, li_57, li_58, li_59, li_60, li_61, li_64, li_65, li_97, li_99, li_100, li_115, li_116, li_121, li_122, li_200, li_255, li_256, li_300, li_999, li_1000, li_12345, li_65535, li_1103515245, if_true, if_false, nI_add, pk_mul, pk_sub, s_div, s_rem, s_cl, p_le_t, p_le_f, p_lt_t, p_lt_f, p_eq_t, p_eq_f, bd1_s, bd2_s, bd3_s, nm_s, gd_t, gd_in, gd_nz, gd_bz0, gd_bz1, gd_cp, mt_2, bI_f, e, bd6_s]))
  · refine Or.inr ⟨K, p, nI x, by omega, fun tok plc numb => ?_, ?_⟩
    · obtain ⟨num', u1, u2⟩ := t7 tok plc numb
      exact ⟨num', u1, t1, fun e => absurd e hK⟩
    · have e := takes0 (len := len) (text := text) (nI x) (nI (mt K)) (nI p) val
      have h1 := mt_le K
      have h2 : mt K ≠ 2 := fun e => hK ((mt_iff K).2.1.mp e)
      unfold f_X9_number f_X9_number_b25 f_X9_number_b26
      (repeat (simp (disch := omega) only [li_0, li_1, li_2, li_3, li_4, li_5, li_6, li_7, li_8, li_9, li_10, li_11, li_12, li_13, li_14, li_15, li_16, li_17, li_18, li_19, li_20, li_21, li_22, li_23, li_24, li_25, li_26, li_27, li_28, li_29, li_30, li_31, li_32, li_34, li_35, li_40, li_41, li_45, li_48, li_49, li_50, li_57, li_58, li_59, li_60, li_61, li_64, li_65, li_97, li_99, li_100, li_115, li_116, li_121, li_122, li_200, li_255, li_256, li_300, li_999, li_1000, li_12345, li_65535, li_1103515245, if_true, if_false, nI_add, pk_mul, pk_sub, s_div, s_rem, s_cl, p_le_t, p_le_f, p_lt_t, p_lt_f, p_eq_t, p_eq_f, bd1_s, bd2_s, bd3_s, nm_s, gd_t, gd_in, gd_nz, gd_bz0, gd_bz1, gd_cp, e, bd6_s]))
theorem rn_ok {i q num x : Nat} {sq ten x2 x4 lo hi p' : Int32} {numbers : Nat → Int32} (hi5 : i < 5) (h4 : (x4 ≤ nI i) = False) (hl : f_X3_least numbers x2 (nI i) = some lo) (hh : f_X3_most sq ten x2 (nI i) = some hi) (hw : wI (nI num) lo hi = true) (hr : ∀ tok plc numb : Int32, f_X7_readToken (nI len) tok plc numb (nI q) bytes = some (nI 2, p', nI num, nI x)) (nn : Nat) (tok plc numb : Int32) : f_X3_readNumbers_b9 (nI len) sq ten bytes x2 x4 (nn + 1) (nI i) tok plc numb (nI q) numbers = f_X3_readNumbers_b9 (nI len) sq ten bytes x2 x4 nn (nI (i + 1)) (nI 2) p' (nI num) (nI x) (upd numbers i (nI num)) := by
  have e := wi_I (nI num) lo hi
  rw [hw, bI_t] at e
  rw [f_X3_readNumbers_b9]
  (repeat (simp (disch := omega) only [li_0, li_1, li_2, li_3, li_4, li_5, li_6, li_7, li_8, li_9, li_10, li_11, li_12, li_13, li_14, li_15, li_16, li_17, li_18, li_19, li_20, li_21, li_22, li_23, li_24, li_25, li_26, li_27, li_28, li_29, li_30, li_31, li_32, li_34, li_35, li_40, li_41, li_45, li_48, li_49, li_50, li_57, li_58, li_59, li_60, li_61, li_64, li_65, li_97, li_99, li_100, li_115, li_116, li_121, li_122, li_200, li_255, li_256, li_300, li_999, li_1000, li_12345, li_65535, li_1103515245, if_true, if_false, nI_add, pk_mul, pk_sub, s_div, s_rem, s_cl, p_le_t, p_le_f, p_lt_t, p_lt_f, p_eq_t, p_eq_f, bd1_s, bd2_s, bd3_s, nm_s, gd_t, gd_in, gd_nz, gd_bz0, gd_bz1, gd_cp, h4, hr tok plc numb, bd4_s, hl, hh, e]))
theorem rn_bad {i q K p : Nat} {sq ten x2 x4 lo hi x : Int32} {numbers : Nat → Int32} (hi5 : i < 5) (h4 : (x4 ≤ nI i) = False) (hl : f_X3_least numbers x2 (nI i) = some lo) (hh : f_X3_most sq ten x2 (nI i) = some hi) (hr : ∀ tok plc numb : Int32, ∃ num' : Int32, f_X7_readToken (nI len) tok plc numb (nI q) bytes = some (nI K, nI p, num', x) ∧ K ≤ 7 ∧ (K = 2 → wI num' lo hi = false)) (nn : Nat) (tok plc numb : Int32) : ∃ t3 n3 x3 : Int32, f_X3_readNumbers_b9 (nI len) sq ten bytes x2 x4 (nn + 1) (nI i) tok plc numb (nI q) numbers = some (nI 0, t3, nI p, n3, x3, numbers) := by
  obtain ⟨num', u1, u2, u3⟩ := hr tok plc numb
  refine ⟨nI K, num', x, ?_⟩
  rw [f_X3_readNumbers_b9]
  by_cases hK : K = 2
  · have e := wi_I num' lo hi
    rw [u3 hK, bI_f] at e
    subst hK
    (repeat (simp (disch := omega) only [li_0, li_1, li_2, li_3, li_4, li_5, li_6, li_7, li_8, li_9, li_10, li_11, li_12, li_13, li_14, li_15, li_16, li_17, li_18, li_19, li_20, li_21, li_22, li_23, li_24, li_25, li_26, li_27, li_28, li_29, li_30, li_31, li_32, li_34, li_35, li_40, li_41, li_45, li_48, li_49, li_50, li_57, li_58, li_59, li_60, li_61, li_64, li_65, li_97, li_99, li_100, li_115, li_116, li_121, li_122, li_200, li_255, li_256, li_300, li_999, li_1000, li_12345, li_65535, li_1103515245, if_true, if_false, nI_add, pk_mul, pk_sub, s_div, s_rem, s_cl, p_le_t, p_le_f, p_lt_t, p_lt_f, p_eq_t, p_eq_f, bd1_s, bd2_s, bd3_s, nm_s, gd_t, gd_in, gd_nz, gd_bz0, gd_bz1, gd_cp, h4, u1, bd4_s, hl, hh, e]))
  · (repeat (simp (disch := omega) only [li_0, li_1, li_2, li_3, li_4, li_5, li_6, li_7, li_8, li_9, li_10, li_11, li_12, li_13, li_14, li_15, li_16, li_17, li_18, li_19, li_20, li_21, li_22, li_23, li_24, li_25, li_26, li_27, li_28, li_29, li_30, li_31, li_32, li_34, li_35, li_40, li_41, li_45, li_48, li_49, li_50, li_57, li_58, li_59, li_60, li_61, li_64, li_65, li_97, li_99, li_100, li_115, li_116, li_121, li_122, li_200, li_255, li_256, li_300, li_999, li_1000, li_12345, li_65535, li_1103515245, if_true, if_false, nI_add, pk_mul, pk_sub, s_div, s_rem, s_cl, p_le_t, p_le_f, p_lt_t, p_lt_f, p_eq_t, p_eq_f, bd1_s, bd2_s, bd3_s, nm_s, gd_t, gd_in, gd_nz, gd_bz0, gd_bz1, gd_cp, h4, u1, bd4_s]))
theorem le_many {m i : Nat} (h : i < m) (hm : m < 100) : (nI m ≤ nI i) = False := p_le_f h (by omega)
def DR (n ns nt cnt : Nat) (sa sp sb ld : Nat → Nat) (starts paces brights purses parts lea pur stars : Nat → Int32) : Prop :=
  2 ≤ n ∧ n ≤ 8 ∧ ns ≤ 8 ∧ nt ≤ 4 ∧ cnt ≤ 10 ∧
  (∀ j, j < ns → sa j < n ∧ sp j ≤ 9 ∧ 1 ≤ sb j ∧ sb j ≤ 9 ∧ starts j = nI (sa j) ∧ paces j = nI (sp j) ∧ brights j = nI (sb j) ∧ stars (24 + 3 * j) = nI (sa j) ∧ stars (24 + 3 * j + 1) = nI (sp j) ∧ stars (24 + 3 * j + 2) = nI (sb j)) ∧
  (∀ j, j < nt → purses j = pur (4 + j)) ∧ (∀ j, j < 5 * cnt → parts j = nI (ld j) ∧ lea j = nI (ld j)) ∧ ∀ k, k < cnt → okL n nt ld k
def IR (len : Nat) (bytes text : Nat → Int32) (q K n ns nt cnt : Nat) (starts paces brights purses parts numbers lea pur stars : Nat → Int32) (nx tk pl val : Int32) : Prop :=
  (∃ (x n' ns' nt' cnt' : Nat) (sa' sp' sb' ld' : Nat → Nat) (t3 p3 b3 : Int32) (numbers' starts' paces' brights' purses' parts' lea' pur' stars' : Nat → Int32) (n1 t1 p1 v1 : Int32),
    q < x ∧ x ≤ len ∧ DR n' ns' nt' cnt' sa' sp' sb' ld' starts' paces' brights' purses' parts' lea' pur' stars' ∧ MS len bytes text x n1 t1 p1 v1 ∧ (∀ j, j < 24 → stars' j = stars j) ∧
    (∀ tok plc numb : Int32, f_X3_readNumbers (nI len) tok plc numb (nI q) (nI n) (nI nt) bytes numbers (nI K) = some (nI 1, t3, p3, b3, nI x, numbers')) ∧
    f_X5_take (nI n) (nI ns) (nI nt) numbers' starts paces brights purses (nI 10) (nI cnt) parts (nI K) = some (nI n', nI ns', nI nt', starts', paces', brights', purses', nI cnt', parts') ∧
    f_X9_readsItem (nI len) nx tk pl val (-nI 1) (nI n) (nI ns) (nI nt) (nI cnt) text lea pur stars (nI (K - 4)) = some (n1, t1, p1, v1, -nI 1, nI n', nI ns', nI nt', nI cnt', lea', pur', stars'))
  ∨ (∃ p : Nat, p ≤ len ∧ (∀ tok plc numb : Int32, ∃ (t3 n3 x3 : Int32) (numbers' : Nat → Int32), f_X3_readNumbers (nI len) tok plc numb (nI q) (nI n) (nI nt) bytes numbers (nI K) = some (nI 0, t3, nI p, n3, x3, numbers')) ∧
    ∃ (n1 t1 p1 v1 a1 a2 a3 a4 : Int32) (lea' pur' stars' : Nat → Int32), f_X9_readsItem (nI len) nx tk pl val (-nI 1) (nI n) (nI ns) (nI nt) (nI cnt) text lea pur stars (nI (K - 4)) = some (n1, t1, p1, v1, nI p, a1, a2, a3, a4, lea', pur', stars') ∧ ∀ j, j < 24 → stars' j = stars j)
theorem hz6 : zF = 1994 + 1 + 1 + 1 + 1 + 1 + 1 := rfl
theorem le_40 (nb : Nat → Int32) : f_X3_least nb (nI 4) (nI 0) = some (nI 2) := by
  unfold f_X3_least f_X3_least_b25 f_X3_least_b39 f_X3_least_b40 f_X3_least_b56 f_X3_least_b57
  (repeat (simp (disch := omega) only [li_0, li_1, li_2, li_3, li_4, li_5, li_6, li_7, li_8, li_9, li_10, li_11, li_12, li_13, li_14, li_15, li_16, li_17, li_18, li_19, li_20, li_21, li_22, li_23, li_24, li_25, li_26, li_27, li_28, li_29, li_30, li_31, li_32, li_34, li_35, li_40, li_41, li_45, li_48, li_49, li_50, li_57, li_58, li_59, li_60, li_61, li_64, li_65, li_97, li_99, li_100, li_115, li_116, li_121, li_122, li_200, li_255, li_256, li_300, li_999, li_1000, li_12345, li_65535, li_1103515245, if_true, if_false, nI_add, pk_mul, pk_sub, s_div, s_rem, s_cl, p_le_t, p_le_f, p_lt_t, p_lt_f, p_eq_t, p_eq_f, bd1_s, bd2_s, bd3_s, nm_s, gd_t, gd_in, gd_nz, gd_bz0, gd_bz1, gd_cp]))
theorem mo_40 (sq ten : Int32) : f_X3_most sq ten (nI 4) (nI 0) = some (nI 8) := by
  unfold f_X3_most f_X3_mostOfLease
  (repeat (simp (disch := omega) only [li_0, li_1, li_2, li_3, li_4, li_5, li_6, li_7, li_8, li_9, li_10, li_11, li_12, li_13, li_14, li_15, li_16, li_17, li_18, li_19, li_20, li_21, li_22, li_23, li_24, li_25, li_26, li_27, li_28, li_29, li_30, li_31, li_32, li_34, li_35, li_40, li_41, li_45, li_48, li_49, li_50, li_57, li_58, li_59, li_60, li_61, li_64, li_65, li_97, li_99, li_100, li_115, li_116, li_121, li_122, li_200, li_255, li_256, li_300, li_999, li_1000, li_12345, li_65535, li_1103515245, if_true, if_false, nI_add, pk_mul, pk_sub, s_div, s_rem, s_cl, p_le_t, p_le_f, p_lt_t, p_lt_f, p_eq_t, p_eq_f, bd1_s, bd2_s, bd3_s, nm_s, gd_t, gd_in, gd_nz, gd_bz0, gd_bz1, gd_cp]))
theorem le_50 (nb : Nat → Int32) : f_X3_least nb (nI 5) (nI 0) = some (nI 0) := by
  unfold f_X3_least f_X3_least_b25 f_X3_least_b39 f_X3_least_b40 f_X3_least_b56 f_X3_least_b57
  (repeat (simp (disch := omega) only [li_0, li_1, li_2, li_3, li_4, li_5, li_6, li_7, li_8, li_9, li_10, li_11, li_12, li_13, li_14, li_15, li_16, li_17, li_18, li_19, li_20, li_21, li_22, li_23, li_24, li_25, li_26, li_27, li_28, li_29, li_30, li_31, li_32, li_34, li_35, li_40, li_41, li_45, li_48, li_49, li_50, li_57, li_58, li_59, li_60, li_61, li_64, li_65, li_97, li_99, li_100, li_115, li_116, li_121, li_122, li_200, li_255, li_256, li_300, li_999, li_1000, li_12345, li_65535, li_1103515245, if_true, if_false, nI_add, pk_mul, pk_sub, s_div, s_rem, s_cl, p_le_t, p_le_f, p_lt_t, p_lt_f, p_eq_t, p_eq_f, bd1_s, bd2_s, bd3_s, nm_s, gd_t, gd_in, gd_nz, gd_bz0, gd_bz1, gd_cp]))
theorem mo_50 (sq ten : Int32) : f_X3_most sq ten (nI 5) (nI 0) = some (sq - nI 1) := by
  unfold f_X3_most f_X3_mostOfLease
  (repeat (simp (disch := omega) only [li_0, li_1, li_2, li_3, li_4, li_5, li_6, li_7, li_8, li_9, li_10, li_11, li_12, li_13, li_14, li_15, li_16, li_17, li_18, li_19, li_20, li_21, li_22, li_23, li_24, li_25, li_26, li_27, li_28, li_29, li_30, li_31, li_32, li_34, li_35, li_40, li_41, li_45, li_48, li_49, li_50, li_57, li_58, li_59, li_60, li_61, li_64, li_65, li_97, li_99, li_100, li_115, li_116, li_121, li_122, li_200, li_255, li_256, li_300, li_999, li_1000, li_12345, li_65535, li_1103515245, if_true, if_false, nI_add, pk_mul, pk_sub, s_div, s_rem, s_cl, p_le_t, p_le_f, p_lt_t, p_lt_f, p_eq_t, p_eq_f, bd1_s, bd2_s, bd3_s, nm_s, gd_t, gd_in, gd_nz, gd_bz0, gd_bz1, gd_cp]))
theorem le_51 (nb : Nat → Int32) : f_X3_least nb (nI 5) (nI 1) = some (nI 0) := by
  unfold f_X3_least f_X3_least_b25 f_X3_least_b39 f_X3_least_b40 f_X3_least_b56 f_X3_least_b57
  (repeat (simp (disch := omega) only [li_0, li_1, li_2, li_3, li_4, li_5, li_6, li_7, li_8, li_9, li_10, li_11, li_12, li_13, li_14, li_15, li_16, li_17, li_18, li_19, li_20, li_21, li_22, li_23, li_24, li_25, li_26, li_27, li_28, li_29, li_30, li_31, li_32, li_34, li_35, li_40, li_41, li_45, li_48, li_49, li_50, li_57, li_58, li_59, li_60, li_61, li_64, li_65, li_97, li_99, li_100, li_115, li_116, li_121, li_122, li_200, li_255, li_256, li_300, li_999, li_1000, li_12345, li_65535, li_1103515245, if_true, if_false, nI_add, pk_mul, pk_sub, s_div, s_rem, s_cl, p_le_t, p_le_f, p_lt_t, p_lt_f, p_eq_t, p_eq_f, bd1_s, bd2_s, bd3_s, nm_s, gd_t, gd_in, gd_nz, gd_bz0, gd_bz1, gd_cp]))
theorem mo_51 (sq ten : Int32) : f_X3_most sq ten (nI 5) (nI 1) = some (nI 9) := by
  unfold f_X3_most f_X3_mostOfLease
  (repeat (simp (disch := omega) only [li_0, li_1, li_2, li_3, li_4, li_5, li_6, li_7, li_8, li_9, li_10, li_11, li_12, li_13, li_14, li_15, li_16, li_17, li_18, li_19, li_20, li_21, li_22, li_23, li_24, li_25, li_26, li_27, li_28, li_29, li_30, li_31, li_32, li_34, li_35, li_40, li_41, li_45, li_48, li_49, li_50, li_57, li_58, li_59, li_60, li_61, li_64, li_65, li_97, li_99, li_100, li_115, li_116, li_121, li_122, li_200, li_255, li_256, li_300, li_999, li_1000, li_12345, li_65535, li_1103515245, if_true, if_false, nI_add, pk_mul, pk_sub, s_div, s_rem, s_cl, p_le_t, p_le_f, p_lt_t, p_lt_f, p_eq_t, p_eq_f, bd1_s, bd2_s, bd3_s, nm_s, gd_t, gd_in, gd_nz, gd_bz0, gd_bz1, gd_cp]))
theorem le_52 (nb : Nat → Int32) : f_X3_least nb (nI 5) (nI 2) = some (nI 1) := by
  unfold f_X3_least f_X3_least_b25 f_X3_least_b39 f_X3_least_b40 f_X3_least_b56 f_X3_least_b57
  (repeat (simp (disch := omega) only [li_0, li_1, li_2, li_3, li_4, li_5, li_6, li_7, li_8, li_9, li_10, li_11, li_12, li_13, li_14, li_15, li_16, li_17, li_18, li_19, li_20, li_21, li_22, li_23, li_24, li_25, li_26, li_27, li_28, li_29, li_30, li_31, li_32, li_34, li_35, li_40, li_41, li_45, li_48, li_49, li_50, li_57, li_58, li_59, li_60, li_61, li_64, li_65, li_97, li_99, li_100, li_115, li_116, li_121, li_122, li_200, li_255, li_256, li_300, li_999, li_1000, li_12345, li_65535, li_1103515245, if_true, if_false, nI_add, pk_mul, pk_sub, s_div, s_rem, s_cl, p_le_t, p_le_f, p_lt_t, p_lt_f, p_eq_t, p_eq_f, bd1_s, bd2_s, bd3_s, nm_s, gd_t, gd_in, gd_nz, gd_bz0, gd_bz1, gd_cp]))
theorem mo_52 (sq ten : Int32) : f_X3_most sq ten (nI 5) (nI 2) = some (nI 9) := by
  unfold f_X3_most f_X3_mostOfLease
  (repeat (simp (disch := omega) only [li_0, li_1, li_2, li_3, li_4, li_5, li_6, li_7, li_8, li_9, li_10, li_11, li_12, li_13, li_14, li_15, li_16, li_17, li_18, li_19, li_20, li_21, li_22, li_23, li_24, li_25, li_26, li_27, li_28, li_29, li_30, li_31, li_32, li_34, li_35, li_40, li_41, li_45, li_48, li_49, li_50, li_57, li_58, li_59, li_60, li_61, li_64, li_65, li_97, li_99, li_100, li_115, li_116, li_121, li_122, li_200, li_255, li_256, li_300, li_999, li_1000, li_12345, li_65535, li_1103515245, if_true, if_false, nI_add, pk_mul, pk_sub, s_div, s_rem, s_cl, p_le_t, p_le_f, p_lt_t, p_lt_f, p_eq_t, p_eq_f, bd1_s, bd2_s, bd3_s, nm_s, gd_t, gd_in, gd_nz, gd_bz0, gd_bz1, gd_cp]))
theorem le_60 (nb : Nat → Int32) : f_X3_least nb (nI 6) (nI 0) = some (nI 0) := by
  unfold f_X3_least f_X3_least_b25 f_X3_least_b39 f_X3_least_b40 f_X3_least_b56 f_X3_least_b57
  (repeat (simp (disch := omega) only [li_0, li_1, li_2, li_3, li_4, li_5, li_6, li_7, li_8, li_9, li_10, li_11, li_12, li_13, li_14, li_15, li_16, li_17, li_18, li_19, li_20, li_21, li_22, li_23, li_24, li_25, li_26, li_27, li_28, li_29, li_30, li_31, li_32, li_34, li_35, li_40, li_41, li_45, li_48, li_49, li_50, li_57, li_58, li_59, li_60, li_61, li_64, li_65, li_97, li_99, li_100, li_115, li_116, li_121, li_122, li_200, li_255, li_256, li_300, li_999, li_1000, li_12345, li_65535, li_1103515245, if_true, if_false, nI_add, pk_mul, pk_sub, s_div, s_rem, s_cl, p_le_t, p_le_f, p_lt_t, p_lt_f, p_eq_t, p_eq_f, bd1_s, bd2_s, bd3_s, nm_s, gd_t, gd_in, gd_nz, gd_bz0, gd_bz1, gd_cp]))
theorem mo_60 (sq ten : Int32) : f_X3_most sq ten (nI 6) (nI 0) = some (nI 99) := by
  unfold f_X3_most f_X3_mostOfLease
  (repeat (simp (disch := omega) only [li_0, li_1, li_2, li_3, li_4, li_5, li_6, li_7, li_8, li_9, li_10, li_11, li_12, li_13, li_14, li_15, li_16, li_17, li_18, li_19, li_20, li_21, li_22, li_23, li_24, li_25, li_26, li_27, li_28, li_29, li_30, li_31, li_32, li_34, li_35, li_40, li_41, li_45, li_48, li_49, li_50, li_57, li_58, li_59, li_60, li_61, li_64, li_65, li_97, li_99, li_100, li_115, li_116, li_121, li_122, li_200, li_255, li_256, li_300, li_999, li_1000, li_12345, li_65535, li_1103515245, if_true, if_false, nI_add, pk_mul, pk_sub, s_div, s_rem, s_cl, p_le_t, p_le_f, p_lt_t, p_lt_f, p_eq_t, p_eq_f, bd1_s, bd2_s, bd3_s, nm_s, gd_t, gd_in, gd_nz, gd_bz0, gd_bz1, gd_cp]))
theorem le_70 (nb : Nat → Int32) : f_X3_least nb (nI 7) (nI 0) = some (nI 0) := by
  unfold f_X3_least f_X3_least_b25 f_X3_least_b39 f_X3_least_b40 f_X3_least_b56 f_X3_least_b57
  (repeat (simp (disch := omega) only [li_0, li_1, li_2, li_3, li_4, li_5, li_6, li_7, li_8, li_9, li_10, li_11, li_12, li_13, li_14, li_15, li_16, li_17, li_18, li_19, li_20, li_21, li_22, li_23, li_24, li_25, li_26, li_27, li_28, li_29, li_30, li_31, li_32, li_34, li_35, li_40, li_41, li_45, li_48, li_49, li_50, li_57, li_58, li_59, li_60, li_61, li_64, li_65, li_97, li_99, li_100, li_115, li_116, li_121, li_122, li_200, li_255, li_256, li_300, li_999, li_1000, li_12345, li_65535, li_1103515245, if_true, if_false, nI_add, pk_mul, pk_sub, s_div, s_rem, s_cl, p_le_t, p_le_f, p_lt_t, p_lt_f, p_eq_t, p_eq_f, bd1_s, bd2_s, bd3_s, nm_s, gd_t, gd_in, gd_nz, gd_bz0, gd_bz1, gd_cp]))
theorem mo_70 (sq ten : Int32) : f_X3_most sq ten (nI 7) (nI 0) = some (ten - nI 1) := by
  unfold f_X3_most f_X3_mostOfLease
  (repeat (simp (disch := omega) only [li_0, li_1, li_2, li_3, li_4, li_5, li_6, li_7, li_8, li_9, li_10, li_11, li_12, li_13, li_14, li_15, li_16, li_17, li_18, li_19, li_20, li_21, li_22, li_23, li_24, li_25, li_26, li_27, li_28, li_29, li_30, li_31, li_32, li_34, li_35, li_40, li_41, li_45, li_48, li_49, li_50, li_57, li_58, li_59, li_60, li_61, li_64, li_65, li_97, li_99, li_100, li_115, li_116, li_121, li_122, li_200, li_255, li_256, li_300, li_999, li_1000, li_12345, li_65535, li_1103515245, if_true, if_false, nI_add, pk_mul, pk_sub, s_div, s_rem, s_cl, p_le_t, p_le_f, p_lt_t, p_lt_f, p_eq_t, p_eq_f, bd1_s, bd2_s, bd3_s, nm_s, gd_t, gd_in, gd_nz, gd_bz0, gd_bz1, gd_cp]))
theorem le_71 (nb : Nat → Int32) : f_X3_least nb (nI 7) (nI 1) = some (nI 0) := by
  unfold f_X3_least f_X3_least_b25 f_X3_least_b39 f_X3_least_b40 f_X3_least_b56 f_X3_least_b57
  (repeat (simp (disch := omega) only [li_0, li_1, li_2, li_3, li_4, li_5, li_6, li_7, li_8, li_9, li_10, li_11, li_12, li_13, li_14, li_15, li_16, li_17, li_18, li_19, li_20, li_21, li_22, li_23, li_24, li_25, li_26, li_27, li_28, li_29, li_30, li_31, li_32, li_34, li_35, li_40, li_41, li_45, li_48, li_49, li_50, li_57, li_58, li_59, li_60, li_61, li_64, li_65, li_97, li_99, li_100, li_115, li_116, li_121, li_122, li_200, li_255, li_256, li_300, li_999, li_1000, li_12345, li_65535, li_1103515245, if_true, if_false, nI_add, pk_mul, pk_sub, s_div, s_rem, s_cl, p_le_t, p_le_f, p_lt_t, p_lt_f, p_eq_t, p_eq_f, bd1_s, bd2_s, bd3_s, nm_s, gd_t, gd_in, gd_nz, gd_bz0, gd_bz1, gd_cp]))
theorem mo_71 (sq ten : Int32) : f_X3_most sq ten (nI 7) (nI 1) = some (sq - nI 1) := by
  unfold f_X3_most f_X3_mostOfLease
  (repeat (simp (disch := omega) only [li_0, li_1, li_2, li_3, li_4, li_5, li_6, li_7, li_8, li_9, li_10, li_11, li_12, li_13, li_14, li_15, li_16, li_17, li_18, li_19, li_20, li_21, li_22, li_23, li_24, li_25, li_26, li_27, li_28, li_29, li_30, li_31, li_32, li_34, li_35, li_40, li_41, li_45, li_48, li_49, li_50, li_57, li_58, li_59, li_60, li_61, li_64, li_65, li_97, li_99, li_100, li_115, li_116, li_121, li_122, li_200, li_255, li_256, li_300, li_999, li_1000, li_12345, li_65535, li_1103515245, if_true, if_false, nI_add, pk_mul, pk_sub, s_div, s_rem, s_cl, p_le_t, p_le_f, p_lt_t, p_lt_f, p_eq_t, p_eq_f, bd1_s, bd2_s, bd3_s, nm_s, gd_t, gd_in, gd_nz, gd_bz0, gd_bz1, gd_cp]))
theorem le_72 (nb : Nat → Int32) : f_X3_least nb (nI 7) (nI 2) = some (nI 1) := by
  unfold f_X3_least f_X3_least_b25 f_X3_least_b39 f_X3_least_b40 f_X3_least_b56 f_X3_least_b57
  (repeat (simp (disch := omega) only [li_0, li_1, li_2, li_3, li_4, li_5, li_6, li_7, li_8, li_9, li_10, li_11, li_12, li_13, li_14, li_15, li_16, li_17, li_18, li_19, li_20, li_21, li_22, li_23, li_24, li_25, li_26, li_27, li_28, li_29, li_30, li_31, li_32, li_34, li_35, li_40, li_41, li_45, li_48, li_49, li_50, li_57, li_58, li_59, li_60, li_61, li_64, li_65, li_97, li_99, li_100, li_115, li_116, li_121, li_122, li_200, li_255, li_256, li_300, li_999, li_1000, li_12345, li_65535, li_1103515245, if_true, if_false, nI_add, pk_mul, pk_sub, s_div, s_rem, s_cl, p_le_t, p_le_f, p_lt_t, p_lt_f, p_eq_t, p_eq_f, bd1_s, bd2_s, bd3_s, nm_s, gd_t, gd_in, gd_nz, gd_bz0, gd_bz1, gd_cp]))
theorem mo_72 (sq ten : Int32) : f_X3_most sq ten (nI 7) (nI 2) = some (sq) := by
  unfold f_X3_most f_X3_mostOfLease
  (repeat (simp (disch := omega) only [li_0, li_1, li_2, li_3, li_4, li_5, li_6, li_7, li_8, li_9, li_10, li_11, li_12, li_13, li_14, li_15, li_16, li_17, li_18, li_19, li_20, li_21, li_22, li_23, li_24, li_25, li_26, li_27, li_28, li_29, li_30, li_31, li_32, li_34, li_35, li_40, li_41, li_45, li_48, li_49, li_50, li_57, li_58, li_59, li_60, li_61, li_64, li_65, li_97, li_99, li_100, li_115, li_116, li_121, li_122, li_200, li_255, li_256, li_300, li_999, li_1000, li_12345, li_65535, li_1103515245, if_true, if_false, nI_add, pk_mul, pk_sub, s_div, s_rem, s_cl, p_le_t, p_le_f, p_lt_t, p_lt_f, p_eq_t, p_eq_f, bd1_s, bd2_s, bd3_s, nm_s, gd_t, gd_in, gd_nz, gd_bz0, gd_bz1, gd_cp]))
theorem le_73 (nb : Nat → Int32) : f_X3_least nb (nI 7) (nI 3) = some (nI 0) := by
  unfold f_X3_least f_X3_least_b25 f_X3_least_b39 f_X3_least_b40 f_X3_least_b56 f_X3_least_b57
  (repeat (simp (disch := omega) only [li_0, li_1, li_2, li_3, li_4, li_5, li_6, li_7, li_8, li_9, li_10, li_11, li_12, li_13, li_14, li_15, li_16, li_17, li_18, li_19, li_20, li_21, li_22, li_23, li_24, li_25, li_26, li_27, li_28, li_29, li_30, li_31, li_32, li_34, li_35, li_40, li_41, li_45, li_48, li_49, li_50, li_57, li_58, li_59, li_60, li_61, li_64, li_65, li_97, li_99, li_100, li_115, li_116, li_121, li_122, li_200, li_255, li_256, li_300, li_999, li_1000, li_12345, li_65535, li_1103515245, if_true, if_false, nI_add, pk_mul, pk_sub, s_div, s_rem, s_cl, p_le_t, p_le_f, p_lt_t, p_lt_f, p_eq_t, p_eq_f, bd1_s, bd2_s, bd3_s, nm_s, gd_t, gd_in, gd_nz, gd_bz0, gd_bz1, gd_cp]))
theorem mo_73 (sq ten : Int32) : f_X3_most sq ten (nI 7) (nI 3) = some (nI 99) := by
  unfold f_X3_most f_X3_mostOfLease
  (repeat (simp (disch := omega) only [li_0, li_1, li_2, li_3, li_4, li_5, li_6, li_7, li_8, li_9, li_10, li_11, li_12, li_13, li_14, li_15, li_16, li_17, li_18, li_19, li_20, li_21, li_22, li_23, li_24, li_25, li_26, li_27, li_28, li_29, li_30, li_31, li_32, li_34, li_35, li_40, li_41, li_45, li_48, li_49, li_50, li_57, li_58, li_59, li_60, li_61, li_64, li_65, li_97, li_99, li_100, li_115, li_116, li_121, li_122, li_200, li_255, li_256, li_300, li_999, li_1000, li_12345, li_65535, li_1103515245, if_true, if_false, nI_add, pk_mul, pk_sub, s_div, s_rem, s_cl, p_le_t, p_le_f, p_lt_t, p_lt_f, p_eq_t, p_eq_f, bd1_s, bd2_s, bd3_s, nm_s, gd_t, gd_in, gd_nz, gd_bz0, gd_bz1, gd_cp]))
theorem le_74 (nb : Nat → Int32) : f_X3_least nb (nI 7) (nI 4) = some (nb 3) := by
  unfold f_X3_least f_X3_least_b25 f_X3_least_b39 f_X3_least_b40 f_X3_least_b56 f_X3_least_b57
  (repeat (simp (disch := omega) only [li_0, li_1, li_2, li_3, li_4, li_5, li_6, li_7, li_8, li_9, li_10, li_11, li_12, li_13, li_14, li_15, li_16, li_17, li_18, li_19, li_20, li_21, li_22, li_23, li_24, li_25, li_26, li_27, li_28, li_29, li_30, li_31, li_32, li_34, li_35, li_40, li_41, li_45, li_48, li_49, li_50, li_57, li_58, li_59, li_60, li_61, li_64, li_65, li_97, li_99, li_100, li_115, li_116, li_121, li_122, li_200, li_255, li_256, li_300, li_999, li_1000, li_12345, li_65535, li_1103515245, if_true, if_false, nI_add, pk_mul, pk_sub, s_div, s_rem, s_cl, p_le_t, p_le_f, p_lt_t, p_lt_f, p_eq_t, p_eq_f, bd1_s, bd2_s, bd3_s, nm_s, gd_t, gd_in, gd_nz, gd_bz0, gd_bz1, gd_cp]))
theorem mo_74 (sq ten : Int32) : f_X3_most sq ten (nI 7) (nI 4) = some (nI 99) := by
  unfold f_X3_most f_X3_mostOfLease
  (repeat (simp (disch := omega) only [li_0, li_1, li_2, li_3, li_4, li_5, li_6, li_7, li_8, li_9, li_10, li_11, li_12, li_13, li_14, li_15, li_16, li_17, li_18, li_19, li_20, li_21, li_22, li_23, li_24, li_25, li_26, li_27, li_28, li_29, li_30, li_31, li_32, li_34, li_35, li_40, li_41, li_45, li_48, li_49, li_50, li_57, li_58, li_59, li_60, li_61, li_64, li_65, li_97, li_99, li_100, li_115, li_116, li_121, li_122, li_200, li_255, li_256, li_300, li_999, li_1000, li_12345, li_65535, li_1103515245, if_true, if_false, nI_add, pk_mul, pk_sub, s_div, s_rem, s_cl, p_le_t, p_le_f, p_lt_t, p_lt_f, p_eq_t, p_eq_f, bd1_s, bd2_s, bd3_s, nm_s, gd_t, gd_in, gd_nz, gd_bz0, gd_bz1, gd_cp]))
theorem hm_4 : f_X3_howMany (nI 4) = some (nI 1) := by
  unfold f_X3_howMany
  (repeat (simp (disch := omega) only [li_0, li_1, li_2, li_3, li_4, li_5, li_6, li_7, li_8, li_9, li_10, li_11, li_12, li_13, li_14, li_15, li_16, li_17, li_18, li_19, li_20, li_21, li_22, li_23, li_24, li_25, li_26, li_27, li_28, li_29, li_30, li_31, li_32, li_34, li_35, li_40, li_41, li_45, li_48, li_49, li_50, li_57, li_58, li_59, li_60, li_61, li_64, li_65, li_97, li_99, li_100, li_115, li_116, li_121, li_122, li_200, li_255, li_256, li_300, li_999, li_1000, li_12345, li_65535, li_1103515245, if_true, if_false, nI_add, pk_mul, pk_sub, s_div, s_rem, s_cl, p_le_t, p_le_f, p_lt_t, p_lt_f, p_eq_t, p_eq_f, bd1_s, bd2_s, bd3_s, nm_s, gd_t, gd_in, gd_nz, gd_bz0, gd_bz1, gd_cp]))
theorem hm_5 : f_X3_howMany (nI 5) = some (nI 3) := by
  unfold f_X3_howMany
  (repeat (simp (disch := omega) only [li_0, li_1, li_2, li_3, li_4, li_5, li_6, li_7, li_8, li_9, li_10, li_11, li_12, li_13, li_14, li_15, li_16, li_17, li_18, li_19, li_20, li_21, li_22, li_23, li_24, li_25, li_26, li_27, li_28, li_29, li_30, li_31, li_32, li_34, li_35, li_40, li_41, li_45, li_48, li_49, li_50, li_57, li_58, li_59, li_60, li_61, li_64, li_65, li_97, li_99, li_100, li_115, li_116, li_121, li_122, li_200, li_255, li_256, li_300, li_999, li_1000, li_12345, li_65535, li_1103515245, if_true, if_false, nI_add, pk_mul, pk_sub, s_div, s_rem, s_cl, p_le_t, p_le_f, p_lt_t, p_lt_f, p_eq_t, p_eq_f, bd1_s, bd2_s, bd3_s, nm_s, gd_t, gd_in, gd_nz, gd_bz0, gd_bz1, gd_cp]))
theorem hm_6 : f_X3_howMany (nI 6) = some (nI 1) := by
  unfold f_X3_howMany
  (repeat (simp (disch := omega) only [li_0, li_1, li_2, li_3, li_4, li_5, li_6, li_7, li_8, li_9, li_10, li_11, li_12, li_13, li_14, li_15, li_16, li_17, li_18, li_19, li_20, li_21, li_22, li_23, li_24, li_25, li_26, li_27, li_28, li_29, li_30, li_31, li_32, li_34, li_35, li_40, li_41, li_45, li_48, li_49, li_50, li_57, li_58, li_59, li_60, li_61, li_64, li_65, li_97, li_99, li_100, li_115, li_116, li_121, li_122, li_200, li_255, li_256, li_300, li_999, li_1000, li_12345, li_65535, li_1103515245, if_true, if_false, nI_add, pk_mul, pk_sub, s_div, s_rem, s_cl, p_le_t, p_le_f, p_lt_t, p_lt_f, p_eq_t, p_eq_f, bd1_s, bd2_s, bd3_s, nm_s, gd_t, gd_in, gd_nz, gd_bz0, gd_bz1, gd_cp]))
theorem hm_7 : f_X3_howMany (nI 7) = some (nI 5) := by
  unfold f_X3_howMany
  (repeat (simp (disch := omega) only [li_0, li_1, li_2, li_3, li_4, li_5, li_6, li_7, li_8, li_9, li_10, li_11, li_12, li_13, li_14, li_15, li_16, li_17, li_18, li_19, li_20, li_21, li_22, li_23, li_24, li_25, li_26, li_27, li_28, li_29, li_30, li_31, li_32, li_34, li_35, li_40, li_41, li_45, li_48, li_49, li_50, li_57, li_58, li_59, li_60, li_61, li_64, li_65, li_97, li_99, li_100, li_115, li_116, li_121, li_122, li_200, li_255, li_256, li_300, li_999, li_1000, li_12345, li_65535, li_1103515245, if_true, if_false, nI_add, pk_mul, pk_sub, s_div, s_rem, s_cl, p_le_t, p_le_f, p_lt_t, p_lt_f, p_eq_t, p_eq_f, bd1_s, bd2_s, bd3_s, nm_s, gd_t, gd_in, gd_nz, gd_bz0, gd_bz1, gd_cp]))
theorem it_sky (hB : gB len b bytes text) {q n ns nt cnt : Nat} {sa sp sb ld : Nat → Nat} {starts paces brights purses parts lea pur stars : Nat → Int32} {nx tk pl val : Int32} (hD : DR n ns nt cnt sa sp sb ld starts paces brights purses parts lea pur stars) (h0 : ns = 0) (h1 : cnt = 0) (hM0 : MS len bytes text q nx tk pl val) (numbers : Nat → Int32) : IR len bytes text q 4 n ns nt cnt starts paces brights purses parts numbers lea pur stars nx tk pl val := by
  have h300 := hB.1
  obtain ⟨d1, d2, d3, d4, d5, d6, d7, d8, d9⟩ := id hD
  have eK : nI (4 - 4) = nI 0 := rfl
  have en : nI n - nI 1 = nI (n - 1) := pk_sub (by omega)
  rcases num_step hB hM0 (nI 2) (nI 8) with ⟨u0, x0, p0, n1, t1, l1, v1, h90, hq0, hx0, hw0, hr0, he0, hM1⟩ | ⟨K0, f0, y0, hf0, hr0, he0⟩
  rotate_left
  · refine Or.inr ⟨f0, hf0, fun tok plc numb => ?_, nx, tk, pl, val, nI n, nI ns, nI nt, nI cnt, lea, pur, stars, ?_, fun j hj => rfl⟩
    · obtain ⟨t3, n3, x3, e⟩ := rn_bad (sq := nI n) (ten := nI nt) (x2 := nI 4) (x4 := nI 1) (numbers := numbers) (show 0 < 5 by decide) (le_many (by decide) (by decide)) (le_40 _) (mo_40 (nI n) (nI nt)) hr0 (1994 + 5) tok plc numb
      refine ⟨t3, n3, x3, numbers, ?_⟩
      unfold f_X3_readNumbers
      rw [hm_4, bd1_s, hz6, li_0]
      exact e
    · rw [eK]
      unfold f_X9_readsItem f_X9_readsItem_b28 f_X9_isWell
      (repeat (simp (disch := omega) only [li_0, li_1, li_2, li_3, li_4, li_5, li_6, li_7, li_8, li_9, li_10, li_11, li_12, li_13, li_14, li_15, li_16, li_17, li_18, li_19, li_20, li_21, li_22, li_23, li_24, li_25, li_26, li_27, li_28, li_29, li_30, li_31, li_32, li_34, li_35, li_40, li_41, li_45, li_48, li_49, li_50, li_57, li_58, li_59, li_60, li_61, li_64, li_65, li_97, li_99, li_100, li_115, li_116, li_121, li_122, li_200, li_255, li_256, li_300, li_999, li_1000, li_12345, li_65535, li_1103515245, if_true, if_false, nI_add, pk_mul, pk_sub, s_div, s_rem, s_cl, p_le_t, p_le_f, p_lt_t, p_lt_f, p_eq_t, p_eq_f, bd1_s, bd2_s, bd3_s, nm_s, gd_t, gd_in, gd_nz, gd_bz0, gd_bz1, gd_cp, en, bd6_s, he0, num_dead (show f0 < 1000000 by omega)]))
  refine Or.inl ⟨x0, u0, ns, nt, cnt, sa, sp, sb, ld, nI 2, p0, nI u0, (upd numbers 0 (nI u0)), starts, paces, brights, purses, parts, lea, pur, stars, n1, t1, l1, v1, by omega, hx0, ?_, hM1, fun j hj => rfl, fun tok plc numb => ?_, ?_, ?_⟩
  · obtain ⟨w1, w2⟩ := wI_le (by omega) (by decide) (by decide) hw0
    refine ⟨w1, w2, d3, d4, d5, fun j hj => by omega, d7, d8, fun k hk => by omega⟩
  · unfold f_X3_readNumbers
    rw [hm_4, bd1_s, hz6, li_0]
    rw [rn_ok (i := 0) (by decide) (le_many (by decide) (by decide)) (le_40 _) (mo_40 (nI n) (nI nt)) hw0 hr0]
    rw [f_X3_readNumbers_b9]
    (repeat (simp (disch := omega) only [li_0, li_1, li_2, li_3, li_4, li_5, li_6, li_7, li_8, li_9, li_10, li_11, li_12, li_13, li_14, li_15, li_16, li_17, li_18, li_19, li_20, li_21, li_22, li_23, li_24, li_25, li_26, li_27, li_28, li_29, li_30, li_31, li_32, li_34, li_35, li_40, li_41, li_45, li_48, li_49, li_50, li_57, li_58, li_59, li_60, li_61, li_64, li_65, li_97, li_99, li_100, li_115, li_116, li_121, li_122, li_200, li_255, li_256, li_300, li_999, li_1000, li_12345, li_65535, li_1103515245, if_true, if_false, nI_add, pk_mul, pk_sub, s_div, s_rem, s_cl, p_le_t, p_le_f, p_lt_t, p_lt_f, p_eq_t, p_eq_f, bd1_s, bd2_s, bd3_s, nm_s, gd_t, gd_in, gd_nz, gd_bz0, gd_bz1, gd_cp]))
  · have g0 : (upd numbers 0 (nI u0)) 0 = nI u0 := by rw [pk_us]
    unfold f_X5_take
    (repeat (simp (disch := omega) only [li_0, li_1, li_2, li_3, li_4, li_5, li_6, li_7, li_8, li_9, li_10, li_11, li_12, li_13, li_14, li_15, li_16, li_17, li_18, li_19, li_20, li_21, li_22, li_23, li_24, li_25, li_26, li_27, li_28, li_29, li_30, li_31, li_32, li_34, li_35, li_40, li_41, li_45, li_48, li_49, li_50, li_57, li_58, li_59, li_60, li_61, li_64, li_65, li_97, li_99, li_100, li_115, li_116, li_121, li_122, li_200, li_255, li_256, li_300, li_999, li_1000, li_12345, li_65535, li_1103515245, if_true, if_false, nI_add, pk_mul, pk_sub, s_div, s_rem, s_cl, p_le_t, p_le_f, p_lt_t, p_lt_f, p_eq_t, p_eq_f, bd1_s, bd2_s, bd3_s, nm_s, gd_t, gd_in, gd_nz, gd_bz0, gd_bz1, gd_cp, g0]))
  · rw [eK]
    unfold f_X9_readsItem f_X9_readsItem_b28 f_X9_isWell
    (repeat (simp (disch := omega) only [li_0, li_1, li_2, li_3, li_4, li_5, li_6, li_7, li_8, li_9, li_10, li_11, li_12, li_13, li_14, li_15, li_16, li_17, li_18, li_19, li_20, li_21, li_22, li_23, li_24, li_25, li_26, li_27, li_28, li_29, li_30, li_31, li_32, li_34, li_35, li_40, li_41, li_45, li_48, li_49, li_50, li_57, li_58, li_59, li_60, li_61, li_64, li_65, li_97, li_99, li_100, li_115, li_116, li_121, li_122, li_200, li_255, li_256, li_300, li_999, li_1000, li_12345, li_65535, li_1103515245, if_true, if_false, nI_add, pk_mul, pk_sub, s_div, s_rem, s_cl, p_le_t, p_le_f, p_lt_t, p_lt_f, p_eq_t, p_eq_f, bd1_s, bd2_s, bd3_s, nm_s, gd_t, gd_in, gd_nz, gd_bz0, gd_bz1, gd_cp, en, bd6_s, he0, m1_0]))
theorem it_star (hB : gB len b bytes text) {q n ns nt cnt : Nat} {sa sp sb ld : Nat → Nat} {starts paces brights purses parts lea pur stars : Nat → Int32} {nx tk pl val : Int32} (hD : DR n ns nt cnt sa sp sb ld starts paces brights purses parts lea pur stars) (hc : ns < 8) (hM0 : MS len bytes text q nx tk pl val) (numbers : Nat → Int32) : IR len bytes text q 5 n ns nt cnt starts paces brights purses parts numbers lea pur stars nx tk pl val := by
  have h300 := hB.1
  obtain ⟨d1, d2, d3, d4, d5, d6, d7, d8, d9⟩ := id hD
  have eK : nI (5 - 4) = nI 1 := rfl
  have en : nI n - nI 1 = nI (n - 1) := pk_sub (by omega)
  rcases num_step hB hM0 (nI 0) (nI (n - 1)) with ⟨u0, x0, p0, n1, t1, l1, v1, h90, hq0, hx0, hw0, hr0, he0, hM1⟩ | ⟨K0, f0, y0, hf0, hr0, he0⟩
  rotate_left
  · refine Or.inr ⟨f0, hf0, fun tok plc numb => ?_, nx, tk, pl, val, nI n, nI (ns + 1), nI nt, nI cnt, lea, pur, (upd (upd (upd stars (24 + 3 * ns) (nI 0)) (24 + 3 * ns + 1) (nI 0)) (24 + 3 * ns + 2) (nI 0)), ?_, fun j hj => by rw [pk_un (by omega), pk_un (by omega), pk_un (by omega)]⟩
    · obtain ⟨t3, n3, x3, e⟩ := rn_bad (sq := nI n) (ten := nI nt) (x2 := nI 5) (x4 := nI 3) (numbers := numbers) (show 0 < 5 by decide) (le_many (by decide) (by decide)) (le_50 _) (by rw [mo_50, en]) hr0 (1994 + 5) tok plc numb
      refine ⟨t3, n3, x3, numbers, ?_⟩
      unfold f_X3_readNumbers
      rw [hm_5, bd1_s, hz6, li_0]
      exact e
    · rw [eK]
      unfold f_X9_readsItem
      (repeat (simp (disch := omega) only [li_0, li_1, li_2, li_3, li_4, li_5, li_6, li_7, li_8, li_9, li_10, li_11, li_12, li_13, li_14, li_15, li_16, li_17, li_18, li_19, li_20, li_21, li_22, li_23, li_24, li_25, li_26, li_27, li_28, li_29, li_30, li_31, li_32, li_34, li_35, li_40, li_41, li_45, li_48, li_49, li_50, li_57, li_58, li_59, li_60, li_61, li_64, li_65, li_97, li_99, li_100, li_115, li_116, li_121, li_122, li_200, li_255, li_256, li_300, li_999, li_1000, li_12345, li_65535, li_1103515245, if_true, if_false, nI_add, pk_mul, pk_sub, s_div, s_rem, s_cl, p_le_t, p_le_f, p_lt_t, p_lt_f, p_eq_t, p_eq_f, bd1_s, bd2_s, bd3_s, nm_s, gd_t, gd_in, gd_nz, gd_bz0, gd_bz1, gd_cp, en, bd6_s, he0, num_dead (show f0 < 1000000 by omega)]))
  rcases num_step hB hM1 (nI 0) (nI 9) with ⟨u1, x1, p1, n2, t2, l2, v2, h91, hq1, hx1, hw1, hr1, he1, hM2⟩ | ⟨K1, f1, y1, hf1, hr1, he1⟩
  rotate_left
  · refine Or.inr ⟨f1, hf1, fun tok plc numb => ?_, n1, t1, l1, v1, nI n, nI (ns + 1), nI nt, nI cnt, lea, pur, (upd (upd (upd stars (24 + 3 * ns) (nI u0)) (24 + 3 * ns + 1) (nI 0)) (24 + 3 * ns + 2) (nI 0)), ?_, fun j hj => by rw [pk_un (by omega), pk_un (by omega), pk_un (by omega)]⟩
    · obtain ⟨t3, n3, x3, e⟩ := rn_bad (sq := nI n) (ten := nI nt) (x2 := nI 5) (x4 := nI 3) (numbers := (upd numbers 0 (nI u0))) (show 1 < 5 by decide) (le_many (by decide) (by decide)) (le_51 _) (mo_51 (nI n) (nI nt)) hr1 (1994 + 4) (nI 2) p0 (nI u0)
      refine ⟨t3, n3, x3, (upd numbers 0 (nI u0)), ?_⟩
      unfold f_X3_readNumbers
      rw [hm_5, bd1_s, hz6, li_0]
      rw [rn_ok (i := 0) (by decide) (le_many (by decide) (by decide)) (le_50 _) (by rw [mo_50, en]) hw0 hr0]
      exact e
    · rw [eK]
      unfold f_X9_readsItem
      (repeat (simp (disch := omega) only [li_0, li_1, li_2, li_3, li_4, li_5, li_6, li_7, li_8, li_9, li_10, li_11, li_12, li_13, li_14, li_15, li_16, li_17, li_18, li_19, li_20, li_21, li_22, li_23, li_24, li_25, li_26, li_27, li_28, li_29, li_30, li_31, li_32, li_34, li_35, li_40, li_41, li_45, li_48, li_49, li_50, li_57, li_58, li_59, li_60, li_61, li_64, li_65, li_97, li_99, li_100, li_115, li_116, li_121, li_122, li_200, li_255, li_256, li_300, li_999, li_1000, li_12345, li_65535, li_1103515245, if_true, if_false, nI_add, pk_mul, pk_sub, s_div, s_rem, s_cl, p_le_t, p_le_f, p_lt_t, p_lt_f, p_eq_t, p_eq_f, bd1_s, bd2_s, bd3_s, nm_s, gd_t, gd_in, gd_nz, gd_bz0, gd_bz1, gd_cp, en, bd6_s, he0, he1, num_dead (show f1 < 1000000 by omega)]))
  rcases num_step hB hM2 (nI 1) (nI 9) with ⟨u2, x2, p2, n3, t3, l3, v3, h92, hq2, hx2, hw2, hr2, he2, hM3⟩ | ⟨K2, f2, y2, hf2, hr2, he2⟩
  rotate_left
  · refine Or.inr ⟨f2, hf2, fun tok plc numb => ?_, n2, t2, l2, v2, nI n, nI (ns + 1), nI nt, nI cnt, lea, pur, (upd (upd (upd stars (24 + 3 * ns) (nI u0)) (24 + 3 * ns + 1) (nI u1)) (24 + 3 * ns + 2) (nI 0)), ?_, fun j hj => by rw [pk_un (by omega), pk_un (by omega), pk_un (by omega)]⟩
    · obtain ⟨t3, n3, x3, e⟩ := rn_bad (sq := nI n) (ten := nI nt) (x2 := nI 5) (x4 := nI 3) (numbers := (upd (upd numbers 0 (nI u0)) 1 (nI u1))) (show 2 < 5 by decide) (le_many (by decide) (by decide)) (le_52 _) (mo_52 (nI n) (nI nt)) hr2 (1994 + 3) (nI 2) p1 (nI u1)
      refine ⟨t3, n3, x3, (upd (upd numbers 0 (nI u0)) 1 (nI u1)), ?_⟩
      unfold f_X3_readNumbers
      rw [hm_5, bd1_s, hz6, li_0]
      rw [rn_ok (i := 0) (by decide) (le_many (by decide) (by decide)) (le_50 _) (by rw [mo_50, en]) hw0 hr0]
      rw [rn_ok (i := 1) (by decide) (le_many (by decide) (by decide)) (le_51 _) (mo_51 (nI n) (nI nt)) hw1 hr1]
      exact e
    · rw [eK]
      unfold f_X9_readsItem
      (repeat (simp (disch := omega) only [li_0, li_1, li_2, li_3, li_4, li_5, li_6, li_7, li_8, li_9, li_10, li_11, li_12, li_13, li_14, li_15, li_16, li_17, li_18, li_19, li_20, li_21, li_22, li_23, li_24, li_25, li_26, li_27, li_28, li_29, li_30, li_31, li_32, li_34, li_35, li_40, li_41, li_45, li_48, li_49, li_50, li_57, li_58, li_59, li_60, li_61, li_64, li_65, li_97, li_99, li_100, li_115, li_116, li_121, li_122, li_200, li_255, li_256, li_300, li_999, li_1000, li_12345, li_65535, li_1103515245, if_true, if_false, nI_add, pk_mul, pk_sub, s_div, s_rem, s_cl, p_le_t, p_le_f, p_lt_t, p_lt_f, p_eq_t, p_eq_f, bd1_s, bd2_s, bd3_s, nm_s, gd_t, gd_in, gd_nz, gd_bz0, gd_bz1, gd_cp, en, bd6_s, he0, he1, he2, num_dead (show f2 < 1000000 by omega)]))
  refine Or.inl ⟨x2, n, ns + 1, nt, cnt, (fun j => if j = ns then u0 else sa j), (fun j => if j = ns then u1 else sp j), (fun j => if j = ns then u2 else sb j), ld, nI 2, p2, nI u2, (upd (upd (upd numbers 0 (nI u0)) 1 (nI u1)) 2 (nI u2)), (upd starts ns (nI u0)), (upd paces ns (nI u1)), (upd brights ns (nI u2)), purses, parts, lea, pur, (upd (upd (upd stars (24 + 3 * ns) (nI u0)) (24 + 3 * ns + 1) (nI u1)) (24 + 3 * ns + 2) (nI u2)), n3, t3, l3, v3, by omega, hx2, ?_, hM3, fun j hj => by rw [pk_un (by omega), pk_un (by omega), pk_un (by omega)], fun tok plc numb => ?_, ?_, ?_⟩
  · obtain ⟨w1, w2⟩ := wI_le (by omega) (by decide) (by omega) hw0
    obtain ⟨w3, w4⟩ := wI_le (by omega) (by decide) (by decide) hw1
    obtain ⟨w5, w6⟩ := wI_le (by omega) (by decide) (by decide) hw2
    refine ⟨d1, d2, by omega, d4, d5, fun j hj => ?_, d7, d8, d9⟩
    by_cases e : j = ns
    · subst e
      dsimp only
      rw [if_pos rfl, if_pos rfl, if_pos rfl]
      refine ⟨by omega, by omega, by omega, by omega, pk_us, pk_us, pk_us, ?_, ?_, pk_us⟩
      · rw [pk_un (by omega), pk_un (by omega), pk_us]
      · rw [pk_un (by omega), pk_us]
    · obtain ⟨z1, z2, z3, z4, z5, z6, z7, z8, z9, z10⟩ := d6 j (by omega)
      dsimp only
      rw [if_neg e, if_neg e, if_neg e]
      refine ⟨z1, z2, z3, z4, by rw [pk_un e]; exact z5, by rw [pk_un e]; exact z6, by rw [pk_un e]; exact z7, ?_, ?_, ?_⟩
      · rw [pk_un (by omega), pk_un (by omega), pk_un (by omega)]; exact z8
      · rw [pk_un (by omega), pk_un (by omega), pk_un (by omega)]; exact z9
      · rw [pk_un (by omega), pk_un (by omega), pk_un (by omega)]; exact z10
  · unfold f_X3_readNumbers
    rw [hm_5, bd1_s, hz6, li_0]
    rw [rn_ok (i := 0) (by decide) (le_many (by decide) (by decide)) (le_50 _) (by rw [mo_50, en]) hw0 hr0]
    rw [rn_ok (i := 1) (by decide) (le_many (by decide) (by decide)) (le_51 _) (mo_51 (nI n) (nI nt)) hw1 hr1]
    rw [rn_ok (i := 2) (by decide) (le_many (by decide) (by decide)) (le_52 _) (mo_52 (nI n) (nI nt)) hw2 hr2]
    rw [f_X3_readNumbers_b9]
    (repeat (simp (disch := omega) only [li_0, li_1, li_2, li_3, li_4, li_5, li_6, li_7, li_8, li_9, li_10, li_11, li_12, li_13, li_14, li_15, li_16, li_17, li_18, li_19, li_20, li_21, li_22, li_23, li_24, li_25, li_26, li_27, li_28, li_29, li_30, li_31, li_32, li_34, li_35, li_40, li_41, li_45, li_48, li_49, li_50, li_57, li_58, li_59, li_60, li_61, li_64, li_65, li_97, li_99, li_100, li_115, li_116, li_121, li_122, li_200, li_255, li_256, li_300, li_999, li_1000, li_12345, li_65535, li_1103515245, if_true, if_false, nI_add, pk_mul, pk_sub, s_div, s_rem, s_cl, p_le_t, p_le_f, p_lt_t, p_lt_f, p_eq_t, p_eq_f, bd1_s, bd2_s, bd3_s, nm_s, gd_t, gd_in, gd_nz, gd_bz0, gd_bz1, gd_cp]))
  · have g0 : (upd (upd (upd numbers 0 (nI u0)) 1 (nI u1)) 2 (nI u2)) 0 = nI u0 := by rw [pk_un (by omega), pk_un (by omega), pk_us]
    have g1 : (upd (upd (upd numbers 0 (nI u0)) 1 (nI u1)) 2 (nI u2)) 1 = nI u1 := by rw [pk_un (by omega), pk_us]
    have g2 : (upd (upd (upd numbers 0 (nI u0)) 1 (nI u1)) 2 (nI u2)) 2 = nI u2 := by rw [pk_us]
    unfold f_X5_take f_X5_take_b78 f_X5_take_b117
    (repeat (simp (disch := omega) only [li_0, li_1, li_2, li_3, li_4, li_5, li_6, li_7, li_8, li_9, li_10, li_11, li_12, li_13, li_14, li_15, li_16, li_17, li_18, li_19, li_20, li_21, li_22, li_23, li_24, li_25, li_26, li_27, li_28, li_29, li_30, li_31, li_32, li_34, li_35, li_40, li_41, li_45, li_48, li_49, li_50, li_57, li_58, li_59, li_60, li_61, li_64, li_65, li_97, li_99, li_100, li_115, li_116, li_121, li_122, li_200, li_255, li_256, li_300, li_999, li_1000, li_12345, li_65535, li_1103515245, if_true, if_false, nI_add, pk_mul, pk_sub, s_div, s_rem, s_cl, p_le_t, p_le_f, p_lt_t, p_lt_f, p_eq_t, p_eq_f, bd1_s, bd2_s, bd3_s, nm_s, gd_t, gd_in, gd_nz, gd_bz0, gd_bz1, gd_cp, g0, g1, g2]))
  · rw [eK]
    unfold f_X9_readsItem
    (repeat (simp (disch := omega) only [li_0, li_1, li_2, li_3, li_4, li_5, li_6, li_7, li_8, li_9, li_10, li_11, li_12, li_13, li_14, li_15, li_16, li_17, li_18, li_19, li_20, li_21, li_22, li_23, li_24, li_25, li_26, li_27, li_28, li_29, li_30, li_31, li_32, li_34, li_35, li_40, li_41, li_45, li_48, li_49, li_50, li_57, li_58, li_59, li_60, li_61, li_64, li_65, li_97, li_99, li_100, li_115, li_116, li_121, li_122, li_200, li_255, li_256, li_300, li_999, li_1000, li_12345, li_65535, li_1103515245, if_true, if_false, nI_add, pk_mul, pk_sub, s_div, s_rem, s_cl, p_le_t, p_le_f, p_lt_t, p_lt_f, p_eq_t, p_eq_f, bd1_s, bd2_s, bd3_s, nm_s, gd_t, gd_in, gd_nz, gd_bz0, gd_bz1, gd_cp, en, bd6_s, he0, he1, he2, m1_0]))
theorem it_tenant (hB : gB len b bytes text) {q n ns nt cnt : Nat} {sa sp sb ld : Nat → Nat} {starts paces brights purses parts lea pur stars : Nat → Int32} {nx tk pl val : Int32} (hD : DR n ns nt cnt sa sp sb ld starts paces brights purses parts lea pur stars) (hc : nt < 4) (hM0 : MS len bytes text q nx tk pl val) (numbers : Nat → Int32) : IR len bytes text q 6 n ns nt cnt starts paces brights purses parts numbers lea pur stars nx tk pl val := by
  have h300 := hB.1
  obtain ⟨d1, d2, d3, d4, d5, d6, d7, d8, d9⟩ := id hD
  have eK : nI (6 - 4) = nI 2 := rfl
  have en : nI n - nI 1 = nI (n - 1) := pk_sub (by omega)
  rcases num_step hB hM0 (nI 0) (nI 99) with ⟨u0, x0, p0, n1, t1, l1, v1, h90, hq0, hx0, hw0, hr0, he0, hM1⟩ | ⟨K0, f0, y0, hf0, hr0, he0⟩
  rotate_left
  · refine Or.inr ⟨f0, hf0, fun tok plc numb => ?_, nx, tk, pl, val, nI n, nI ns, nI (nt + 1), nI cnt, lea, (upd pur (4 + nt) (nI 0)), stars, ?_, fun j hj => rfl⟩
    · obtain ⟨t3, n3, x3, e⟩ := rn_bad (sq := nI n) (ten := nI nt) (x2 := nI 6) (x4 := nI 1) (numbers := numbers) (show 0 < 5 by decide) (le_many (by decide) (by decide)) (le_60 _) (mo_60 (nI n) (nI nt)) hr0 (1994 + 5) tok plc numb
      refine ⟨t3, n3, x3, numbers, ?_⟩
      unfold f_X3_readNumbers
      rw [hm_6, bd1_s, hz6, li_0]
      exact e
    · rw [eK]
      unfold f_X9_readsItem
      (repeat (simp (disch := omega) only [li_0, li_1, li_2, li_3, li_4, li_5, li_6, li_7, li_8, li_9, li_10, li_11, li_12, li_13, li_14, li_15, li_16, li_17, li_18, li_19, li_20, li_21, li_22, li_23, li_24, li_25, li_26, li_27, li_28, li_29, li_30, li_31, li_32, li_34, li_35, li_40, li_41, li_45, li_48, li_49, li_50, li_57, li_58, li_59, li_60, li_61, li_64, li_65, li_97, li_99, li_100, li_115, li_116, li_121, li_122, li_200, li_255, li_256, li_300, li_999, li_1000, li_12345, li_65535, li_1103515245, if_true, if_false, nI_add, pk_mul, pk_sub, s_div, s_rem, s_cl, p_le_t, p_le_f, p_lt_t, p_lt_f, p_eq_t, p_eq_f, bd1_s, bd2_s, bd3_s, nm_s, gd_t, gd_in, gd_nz, gd_bz0, gd_bz1, gd_cp, en, bd6_s, he0, num_dead (show f0 < 1000000 by omega)]))
  refine Or.inl ⟨x0, n, ns, nt + 1, cnt, sa, sp, sb, ld, nI 2, p0, nI u0, (upd numbers 0 (nI u0)), starts, paces, brights, (upd purses nt (nI u0)), parts, lea, (upd pur (4 + nt) (nI u0)), stars, n1, t1, l1, v1, by omega, hx0, ?_, hM1, fun j hj => rfl, fun tok plc numb => ?_, ?_, ?_⟩
  · refine ⟨d1, d2, d3, by omega, d5, d6, fun j hj => ?_, d8, fun k hk => ?_⟩
    · by_cases e : j = nt
      · subst e
        rw [pk_us, pk_us]
      · rw [pk_un e, pk_un (by omega)]
        exact d7 j (by omega)
    · obtain ⟨z1, z2⟩ := d9 k hk
      exact ⟨by omega, z2⟩
  · unfold f_X3_readNumbers
    rw [hm_6, bd1_s, hz6, li_0]
    rw [rn_ok (i := 0) (by decide) (le_many (by decide) (by decide)) (le_60 _) (mo_60 (nI n) (nI nt)) hw0 hr0]
    rw [f_X3_readNumbers_b9]
    (repeat (simp (disch := omega) only [li_0, li_1, li_2, li_3, li_4, li_5, li_6, li_7, li_8, li_9, li_10, li_11, li_12, li_13, li_14, li_15, li_16, li_17, li_18, li_19, li_20, li_21, li_22, li_23, li_24, li_25, li_26, li_27, li_28, li_29, li_30, li_31, li_32, li_34, li_35, li_40, li_41, li_45, li_48, li_49, li_50, li_57, li_58, li_59, li_60, li_61, li_64, li_65, li_97, li_99, li_100, li_115, li_116, li_121, li_122, li_200, li_255, li_256, li_300, li_999, li_1000, li_12345, li_65535, li_1103515245, if_true, if_false, nI_add, pk_mul, pk_sub, s_div, s_rem, s_cl, p_le_t, p_le_f, p_lt_t, p_lt_f, p_eq_t, p_eq_f, bd1_s, bd2_s, bd3_s, nm_s, gd_t, gd_in, gd_nz, gd_bz0, gd_bz1, gd_cp]))
  · have g0 : (upd numbers 0 (nI u0)) 0 = nI u0 := by rw [pk_us]
    unfold f_X5_take f_X5_take_b78 f_X5_take_b117
    (repeat (simp (disch := omega) only [li_0, li_1, li_2, li_3, li_4, li_5, li_6, li_7, li_8, li_9, li_10, li_11, li_12, li_13, li_14, li_15, li_16, li_17, li_18, li_19, li_20, li_21, li_22, li_23, li_24, li_25, li_26, li_27, li_28, li_29, li_30, li_31, li_32, li_34, li_35, li_40, li_41, li_45, li_48, li_49, li_50, li_57, li_58, li_59, li_60, li_61, li_64, li_65, li_97, li_99, li_100, li_115, li_116, li_121, li_122, li_200, li_255, li_256, li_300, li_999, li_1000, li_12345, li_65535, li_1103515245, if_true, if_false, nI_add, pk_mul, pk_sub, s_div, s_rem, s_cl, p_le_t, p_le_f, p_lt_t, p_lt_f, p_eq_t, p_eq_f, bd1_s, bd2_s, bd3_s, nm_s, gd_t, gd_in, gd_nz, gd_bz0, gd_bz1, gd_cp, g0]))
  · rw [eK]
    unfold f_X9_readsItem
    (repeat (simp (disch := omega) only [li_0, li_1, li_2, li_3, li_4, li_5, li_6, li_7, li_8, li_9, li_10, li_11, li_12, li_13, li_14, li_15, li_16, li_17, li_18, li_19, li_20, li_21, li_22, li_23, li_24, li_25, li_26, li_27, li_28, li_29, li_30, li_31, li_32, li_34, li_35, li_40, li_41, li_45, li_48, li_49, li_50, li_57, li_58, li_59, li_60, li_61, li_64, li_65, li_97, li_99, li_100, li_115, li_116, li_121, li_122, li_200, li_255, li_256, li_300, li_999, li_1000, li_12345, li_65535, li_1103515245, if_true, if_false, nI_add, pk_mul, pk_sub, s_div, s_rem, s_cl, p_le_t, p_le_f, p_lt_t, p_lt_f, p_eq_t, p_eq_f, bd1_s, bd2_s, bd3_s, nm_s, gd_t, gd_in, gd_nz, gd_bz0, gd_bz1, gd_cp, en, bd6_s, he0, m1_0]))
theorem it_lease (hB : gB len b bytes text) {q n ns nt cnt : Nat} {sa sp sb ld : Nat → Nat} {starts paces brights purses parts lea pur stars : Nat → Int32} {nx tk pl val : Int32} (hD : DR n ns nt cnt sa sp sb ld starts paces brights purses parts lea pur stars) (hc : cnt < 10) (hM0 : MS len bytes text q nx tk pl val) (numbers : Nat → Int32) : IR len bytes text q 7 n ns nt cnt starts paces brights purses parts numbers lea pur stars nx tk pl val := by
  have h300 := hB.1
  obtain ⟨d1, d2, d3, d4, d5, d6, d7, d8, d9⟩ := id hD
  have eK : nI (7 - 4) = nI 3 := rfl
  have en : nI n - nI 1 = nI (n - 1) := pk_sub (by omega)
  rcases num_step hB hM0 (nI 0) (nI nt - nI 1) with ⟨u0, x0, p0, n1, t1, l1, v1, h90, hq0, hx0, hw0, hr0, he0, hM1⟩ | ⟨K0, f0, y0, hf0, hr0, he0⟩
  rotate_left
  · refine Or.inr ⟨f0, hf0, fun tok plc numb => ?_, nx, tk, pl, val, nI n, nI ns, nI nt, nI (cnt + 1), (upd (upd (upd (upd (upd lea (5 * cnt) (nI 0)) (5 * cnt + 1) (nI 0)) (5 * cnt + 2) (nI 0)) (5 * cnt + 3) (nI 0)) (5 * cnt + 4) (nI 0)), pur, stars, ?_, fun j hj => rfl⟩
    · obtain ⟨t3, n3, x3, e⟩ := rn_bad (sq := nI n) (ten := nI nt) (x2 := nI 7) (x4 := nI 5) (numbers := numbers) (show 0 < 5 by decide) (le_many (by decide) (by decide)) (le_70 _) (mo_70 (nI n) (nI nt)) hr0 (1994 + 5) tok plc numb
      refine ⟨t3, n3, x3, numbers, ?_⟩
      unfold f_X3_readNumbers
      rw [hm_7, bd1_s, hz6, li_0]
      exact e
    · rw [eK]
      unfold f_X9_readsItem
      (repeat (simp (disch := omega) only [li_0, li_1, li_2, li_3, li_4, li_5, li_6, li_7, li_8, li_9, li_10, li_11, li_12, li_13, li_14, li_15, li_16, li_17, li_18, li_19, li_20, li_21, li_22, li_23, li_24, li_25, li_26, li_27, li_28, li_29, li_30, li_31, li_32, li_34, li_35, li_40, li_41, li_45, li_48, li_49, li_50, li_57, li_58, li_59, li_60, li_61, li_64, li_65, li_97, li_99, li_100, li_115, li_116, li_121, li_122, li_200, li_255, li_256, li_300, li_999, li_1000, li_12345, li_65535, li_1103515245, if_true, if_false, nI_add, pk_mul, pk_sub, s_div, s_rem, s_cl, p_le_t, p_le_f, p_lt_t, p_lt_f, p_eq_t, p_eq_f, bd1_s, bd2_s, bd3_s, nm_s, gd_t, gd_in, gd_nz, gd_bz0, gd_bz1, gd_cp, en, bd6_s, he0, num_dead (show f0 < 1000000 by omega)]))
  rcases num_step hB hM1 (nI 0) (nI (n - 1)) with ⟨u1, x1, p1, n2, t2, l2, v2, h91, hq1, hx1, hw1, hr1, he1, hM2⟩ | ⟨K1, f1, y1, hf1, hr1, he1⟩
  rotate_left
  · refine Or.inr ⟨f1, hf1, fun tok plc numb => ?_, n1, t1, l1, v1, nI n, nI ns, nI nt, nI (cnt + 1), (upd (upd (upd (upd (upd lea (5 * cnt) (nI u0)) (5 * cnt + 1) (nI 0)) (5 * cnt + 2) (nI 0)) (5 * cnt + 3) (nI 0)) (5 * cnt + 4) (nI 0)), pur, stars, ?_, fun j hj => rfl⟩
    · obtain ⟨t3, n3, x3, e⟩ := rn_bad (sq := nI n) (ten := nI nt) (x2 := nI 7) (x4 := nI 5) (numbers := (upd numbers 0 (nI u0))) (show 1 < 5 by decide) (le_many (by decide) (by decide)) (le_71 _) (by rw [mo_71, en]) hr1 (1994 + 4) (nI 2) p0 (nI u0)
      refine ⟨t3, n3, x3, (upd numbers 0 (nI u0)), ?_⟩
      unfold f_X3_readNumbers
      rw [hm_7, bd1_s, hz6, li_0]
      rw [rn_ok (i := 0) (by decide) (le_many (by decide) (by decide)) (le_70 _) (mo_70 (nI n) (nI nt)) hw0 hr0]
      exact e
    · rw [eK]
      unfold f_X9_readsItem
      (repeat (simp (disch := omega) only [li_0, li_1, li_2, li_3, li_4, li_5, li_6, li_7, li_8, li_9, li_10, li_11, li_12, li_13, li_14, li_15, li_16, li_17, li_18, li_19, li_20, li_21, li_22, li_23, li_24, li_25, li_26, li_27, li_28, li_29, li_30, li_31, li_32, li_34, li_35, li_40, li_41, li_45, li_48, li_49, li_50, li_57, li_58, li_59, li_60, li_61, li_64, li_65, li_97, li_99, li_100, li_115, li_116, li_121, li_122, li_200, li_255, li_256, li_300, li_999, li_1000, li_12345, li_65535, li_1103515245, if_true, if_false, nI_add, pk_mul, pk_sub, s_div, s_rem, s_cl, p_le_t, p_le_f, p_lt_t, p_lt_f, p_eq_t, p_eq_f, bd1_s, bd2_s, bd3_s, nm_s, gd_t, gd_in, gd_nz, gd_bz0, gd_bz1, gd_cp, en, bd6_s, he0, he1, num_dead (show f1 < 1000000 by omega)]))
  rcases num_step hB hM2 (nI 1) (nI n) with ⟨u2, x2, p2, n3, t3, l3, v3, h92, hq2, hx2, hw2, hr2, he2, hM3⟩ | ⟨K2, f2, y2, hf2, hr2, he2⟩
  rotate_left
  · refine Or.inr ⟨f2, hf2, fun tok plc numb => ?_, n2, t2, l2, v2, nI n, nI ns, nI nt, nI (cnt + 1), (upd (upd (upd (upd (upd lea (5 * cnt) (nI u0)) (5 * cnt + 1) (nI u1)) (5 * cnt + 2) (nI 0)) (5 * cnt + 3) (nI 0)) (5 * cnt + 4) (nI 0)), pur, stars, ?_, fun j hj => rfl⟩
    · obtain ⟨t3, n3, x3, e⟩ := rn_bad (sq := nI n) (ten := nI nt) (x2 := nI 7) (x4 := nI 5) (numbers := (upd (upd numbers 0 (nI u0)) 1 (nI u1))) (show 2 < 5 by decide) (le_many (by decide) (by decide)) (le_72 _) (mo_72 (nI n) (nI nt)) hr2 (1994 + 3) (nI 2) p1 (nI u1)
      refine ⟨t3, n3, x3, (upd (upd numbers 0 (nI u0)) 1 (nI u1)), ?_⟩
      unfold f_X3_readNumbers
      rw [hm_7, bd1_s, hz6, li_0]
      rw [rn_ok (i := 0) (by decide) (le_many (by decide) (by decide)) (le_70 _) (mo_70 (nI n) (nI nt)) hw0 hr0]
      rw [rn_ok (i := 1) (by decide) (le_many (by decide) (by decide)) (le_71 _) (by rw [mo_71, en]) hw1 hr1]
      exact e
    · rw [eK]
      unfold f_X9_readsItem
      (repeat (simp (disch := omega) only [li_0, li_1, li_2, li_3, li_4, li_5, li_6, li_7, li_8, li_9, li_10, li_11, li_12, li_13, li_14, li_15, li_16, li_17, li_18, li_19, li_20, li_21, li_22, li_23, li_24, li_25, li_26, li_27, li_28, li_29, li_30, li_31, li_32, li_34, li_35, li_40, li_41, li_45, li_48, li_49, li_50, li_57, li_58, li_59, li_60, li_61, li_64, li_65, li_97, li_99, li_100, li_115, li_116, li_121, li_122, li_200, li_255, li_256, li_300, li_999, li_1000, li_12345, li_65535, li_1103515245, if_true, if_false, nI_add, pk_mul, pk_sub, s_div, s_rem, s_cl, p_le_t, p_le_f, p_lt_t, p_lt_f, p_eq_t, p_eq_f, bd1_s, bd2_s, bd3_s, nm_s, gd_t, gd_in, gd_nz, gd_bz0, gd_bz1, gd_cp, en, bd6_s, he0, he1, he2, num_dead (show f2 < 1000000 by omega)]))
  rcases num_step hB hM3 (nI 0) (nI 99) with ⟨u3, x3, p3, n4, t4, l4, v4, h93, hq3, hx3, hw3, hr3, he3, hM4⟩ | ⟨K3, f3, y3, hf3, hr3, he3⟩
  rotate_left
  · refine Or.inr ⟨f3, hf3, fun tok plc numb => ?_, n3, t3, l3, v3, nI n, nI ns, nI nt, nI (cnt + 1), (upd (upd (upd (upd (upd lea (5 * cnt) (nI u0)) (5 * cnt + 1) (nI u1)) (5 * cnt + 2) (nI u2)) (5 * cnt + 3) (nI 0)) (5 * cnt + 4) (nI 0)), pur, stars, ?_, fun j hj => rfl⟩
    · obtain ⟨t3, n3, x3, e⟩ := rn_bad (sq := nI n) (ten := nI nt) (x2 := nI 7) (x4 := nI 5) (numbers := (upd (upd (upd numbers 0 (nI u0)) 1 (nI u1)) 2 (nI u2))) (show 3 < 5 by decide) (le_many (by decide) (by decide)) (le_73 _) (mo_73 (nI n) (nI nt)) hr3 (1994 + 2) (nI 2) p2 (nI u2)
      refine ⟨t3, n3, x3, (upd (upd (upd numbers 0 (nI u0)) 1 (nI u1)) 2 (nI u2)), ?_⟩
      unfold f_X3_readNumbers
      rw [hm_7, bd1_s, hz6, li_0]
      rw [rn_ok (i := 0) (by decide) (le_many (by decide) (by decide)) (le_70 _) (mo_70 (nI n) (nI nt)) hw0 hr0]
      rw [rn_ok (i := 1) (by decide) (le_many (by decide) (by decide)) (le_71 _) (by rw [mo_71, en]) hw1 hr1]
      rw [rn_ok (i := 2) (by decide) (le_many (by decide) (by decide)) (le_72 _) (mo_72 (nI n) (nI nt)) hw2 hr2]
      exact e
    · rw [eK]
      unfold f_X9_readsItem
      (repeat (simp (disch := omega) only [li_0, li_1, li_2, li_3, li_4, li_5, li_6, li_7, li_8, li_9, li_10, li_11, li_12, li_13, li_14, li_15, li_16, li_17, li_18, li_19, li_20, li_21, li_22, li_23, li_24, li_25, li_26, li_27, li_28, li_29, li_30, li_31, li_32, li_34, li_35, li_40, li_41, li_45, li_48, li_49, li_50, li_57, li_58, li_59, li_60, li_61, li_64, li_65, li_97, li_99, li_100, li_115, li_116, li_121, li_122, li_200, li_255, li_256, li_300, li_999, li_1000, li_12345, li_65535, li_1103515245, if_true, if_false, nI_add, pk_mul, pk_sub, s_div, s_rem, s_cl, p_le_t, p_le_f, p_lt_t, p_lt_f, p_eq_t, p_eq_f, bd1_s, bd2_s, bd3_s, nm_s, gd_t, gd_in, gd_nz, gd_bz0, gd_bz1, gd_cp, en, bd6_s, he0, he1, he2, he3, num_dead (show f3 < 1000000 by omega)]))
  rcases num_step hB hM4 (nI u3) (nI 99) with ⟨u4, x4, p4, n5, t5, l5, v5, h94, hq4, hx4, hw4, hr4, he4, hM5⟩ | ⟨K4, f4, y4, hf4, hr4, he4⟩
  rotate_left
  · refine Or.inr ⟨f4, hf4, fun tok plc numb => ?_, n4, t4, l4, v4, nI n, nI ns, nI nt, nI (cnt + 1), (upd (upd (upd (upd (upd lea (5 * cnt) (nI u0)) (5 * cnt + 1) (nI u1)) (5 * cnt + 2) (nI u2)) (5 * cnt + 3) (nI u3)) (5 * cnt + 4) (nI 0)), pur, stars, ?_, fun j hj => rfl⟩
    · obtain ⟨t3, n3, x3, e⟩ := rn_bad (sq := nI n) (ten := nI nt) (x2 := nI 7) (x4 := nI 5) (numbers := (upd (upd (upd (upd numbers 0 (nI u0)) 1 (nI u1)) 2 (nI u2)) 3 (nI u3))) (show 4 < 5 by decide) (le_many (by decide) (by decide)) ((le_74 _).trans (by rw [pk_us])) (mo_74 (nI n) (nI nt)) hr4 (1994 + 1) (nI 2) p3 (nI u3)
      refine ⟨t3, n3, x3, (upd (upd (upd (upd numbers 0 (nI u0)) 1 (nI u1)) 2 (nI u2)) 3 (nI u3)), ?_⟩
      unfold f_X3_readNumbers
      rw [hm_7, bd1_s, hz6, li_0]
      rw [rn_ok (i := 0) (by decide) (le_many (by decide) (by decide)) (le_70 _) (mo_70 (nI n) (nI nt)) hw0 hr0]
      rw [rn_ok (i := 1) (by decide) (le_many (by decide) (by decide)) (le_71 _) (by rw [mo_71, en]) hw1 hr1]
      rw [rn_ok (i := 2) (by decide) (le_many (by decide) (by decide)) (le_72 _) (mo_72 (nI n) (nI nt)) hw2 hr2]
      rw [rn_ok (i := 3) (by decide) (le_many (by decide) (by decide)) (le_73 _) (mo_73 (nI n) (nI nt)) hw3 hr3]
      exact e
    · rw [eK]
      unfold f_X9_readsItem
      (repeat (simp (disch := omega) only [li_0, li_1, li_2, li_3, li_4, li_5, li_6, li_7, li_8, li_9, li_10, li_11, li_12, li_13, li_14, li_15, li_16, li_17, li_18, li_19, li_20, li_21, li_22, li_23, li_24, li_25, li_26, li_27, li_28, li_29, li_30, li_31, li_32, li_34, li_35, li_40, li_41, li_45, li_48, li_49, li_50, li_57, li_58, li_59, li_60, li_61, li_64, li_65, li_97, li_99, li_100, li_115, li_116, li_121, li_122, li_200, li_255, li_256, li_300, li_999, li_1000, li_12345, li_65535, li_1103515245, if_true, if_false, nI_add, pk_mul, pk_sub, s_div, s_rem, s_cl, p_le_t, p_le_f, p_lt_t, p_lt_f, p_eq_t, p_eq_f, bd1_s, bd2_s, bd3_s, nm_s, gd_t, gd_in, gd_nz, gd_bz0, gd_bz1, gd_cp, en, bd6_s, he0, he1, he2, he3, he4, num_dead (show f4 < 1000000 by omega)]))
  refine Or.inl ⟨x4, n, ns, nt, cnt + 1, sa, sp, sb, (addL ld cnt u0 u1 u2 u3 u4), nI 2, p4, nI u4, (upd (upd (upd (upd (upd numbers 0 (nI u0)) 1 (nI u1)) 2 (nI u2)) 3 (nI u3)) 4 (nI u4)), starts, paces, brights, purses, (add5 parts cnt (nI u0) (nI u1) (nI u2) (nI u3) (nI u4)), (upd (upd (upd (upd (upd lea (5 * cnt) (nI u0)) (5 * cnt + 1) (nI u1)) (5 * cnt + 2) (nI u2)) (5 * cnt + 3) (nI u3)) (5 * cnt + 4) (nI u4)), pur, stars, n5, t5, l5, v5, by omega, hx4, ?_, hM5, fun j hj => rfl, fun tok plc numb => ?_, ?_, ?_⟩
  · have w0 := wI_T (by omega) (by omega) hw0
    obtain ⟨w1, w2⟩ := wI_le (by omega) (by decide) (by omega) hw1
    obtain ⟨w3, w4⟩ := wI_le (by omega) (by decide) (by omega) hw2
    obtain ⟨w5, w6⟩ := wI_le (by omega) (by decide) (by decide) hw3
    obtain ⟨w7, w8⟩ := wI_le (by omega) (by omega) (by decide) hw4
    refine ⟨d1, d2, d3, d4, by omega, d6, d7, fun j hj => ?_, addL_ok d9 w0 (by omega) w3 w4 w7 w8⟩
    refine five (P := fun j => add5 parts cnt (nI u0) (nI u1) (nI u2) (nI u3) (nI u4) j = nI (addL ld cnt u0 u1 u2 u3 u4 j) ∧ (upd (upd (upd (upd (upd lea (5 * cnt) (nI u0)) (5 * cnt + 1) (nI u1)) (5 * cnt + 2) (nI u2)) (5 * cnt + 3) (nI u3)) (5 * cnt + 4) (nI u4)) j = nI (addL ld cnt u0 u1 u2 u3 u4 j)) hj (fun h => ?_) ?_ ?_ ?_ ?_ ?_
    · rw [add5_lo h, addL_lo h, pk_un (by omega), pk_un (by omega), pk_un (by omega), pk_un (by omega), pk_un (by omega)]
      exact d8 j h
    · rw [add5_0, addL_0, pk_un (by omega), pk_un (by omega), pk_un (by omega), pk_un (by omega), pk_us]
      exact ⟨rfl, rfl⟩
    · rw [add5_1, addL_hi, pk_un (by omega), pk_un (by omega), pk_un (by omega), pk_us]
      exact ⟨rfl, rfl⟩
    · rw [add5_2, addL_hi, pk_un (by omega), pk_un (by omega), pk_us]
      exact ⟨rfl, rfl⟩
    · rw [add5_3, addL_hi, pk_un (by omega), pk_us]
      exact ⟨rfl, rfl⟩
    · rw [add5_4, addL_hi, pk_us]
      exact ⟨rfl, rfl⟩
  · unfold f_X3_readNumbers
    rw [hm_7, bd1_s, hz6, li_0]
    rw [rn_ok (i := 0) (by decide) (le_many (by decide) (by decide)) (le_70 _) (mo_70 (nI n) (nI nt)) hw0 hr0]
    rw [rn_ok (i := 1) (by decide) (le_many (by decide) (by decide)) (le_71 _) (by rw [mo_71, en]) hw1 hr1]
    rw [rn_ok (i := 2) (by decide) (le_many (by decide) (by decide)) (le_72 _) (mo_72 (nI n) (nI nt)) hw2 hr2]
    rw [rn_ok (i := 3) (by decide) (le_many (by decide) (by decide)) (le_73 _) (mo_73 (nI n) (nI nt)) hw3 hr3]
    rw [rn_ok (i := 4) (by decide) (le_many (by decide) (by decide)) ((le_74 _).trans (by rw [pk_us])) (mo_74 (nI n) (nI nt)) hw4 hr4]
    rw [f_X3_readNumbers_b9]
    (repeat (simp (disch := omega) only [li_0, li_1, li_2, li_3, li_4, li_5, li_6, li_7, li_8, li_9, li_10, li_11, li_12, li_13, li_14, li_15, li_16, li_17, li_18, li_19, li_20, li_21, li_22, li_23, li_24, li_25, li_26, li_27, li_28, li_29, li_30, li_31, li_32, li_34, li_35, li_40, li_41, li_45, li_48, li_49, li_50, li_57, li_58, li_59, li_60, li_61, li_64, li_65, li_97, li_99, li_100, li_115, li_116, li_121, li_122, li_200, li_255, li_256, li_300, li_999, li_1000, li_12345, li_65535, li_1103515245, if_true, if_false, nI_add, pk_mul, pk_sub, s_div, s_rem, s_cl, p_le_t, p_le_f, p_lt_t, p_lt_f, p_eq_t, p_eq_f, bd1_s, bd2_s, bd3_s, nm_s, gd_t, gd_in, gd_nz, gd_bz0, gd_bz1, gd_cp]))
  · have g0 : (upd (upd (upd (upd (upd numbers 0 (nI u0)) 1 (nI u1)) 2 (nI u2)) 3 (nI u3)) 4 (nI u4)) 0 = nI u0 := by rw [pk_un (by omega), pk_un (by omega), pk_un (by omega), pk_un (by omega), pk_us]
    have g1 : (upd (upd (upd (upd (upd numbers 0 (nI u0)) 1 (nI u1)) 2 (nI u2)) 3 (nI u3)) 4 (nI u4)) 1 = nI u1 := by rw [pk_un (by omega), pk_un (by omega), pk_un (by omega), pk_us]
    have g2 : (upd (upd (upd (upd (upd numbers 0 (nI u0)) 1 (nI u1)) 2 (nI u2)) 3 (nI u3)) 4 (nI u4)) 2 = nI u2 := by rw [pk_un (by omega), pk_un (by omega), pk_us]
    have g3 : (upd (upd (upd (upd (upd numbers 0 (nI u0)) 1 (nI u1)) 2 (nI u2)) 3 (nI u3)) 4 (nI u4)) 3 = nI u3 := by rw [pk_un (by omega), pk_us]
    have g4 : (upd (upd (upd (upd (upd numbers 0 (nI u0)) 1 (nI u1)) 2 (nI u2)) 3 (nI u3)) 4 (nI u4)) 4 = nI u4 := by rw [pk_us]
    unfold f_X5_take f_X5_take_b78 f_X5_take_b117
    (repeat (simp (disch := omega) only [li_0, li_1, li_2, li_3, li_4, li_5, li_6, li_7, li_8, li_9, li_10, li_11, li_12, li_13, li_14, li_15, li_16, li_17, li_18, li_19, li_20, li_21, li_22, li_23, li_24, li_25, li_26, li_27, li_28, li_29, li_30, li_31, li_32, li_34, li_35, li_40, li_41, li_45, li_48, li_49, li_50, li_57, li_58, li_59, li_60, li_61, li_64, li_65, li_97, li_99, li_100, li_115, li_116, li_121, li_122, li_200, li_255, li_256, li_300, li_999, li_1000, li_12345, li_65535, li_1103515245, if_true, if_false, nI_add, pk_mul, pk_sub, s_div, s_rem, s_cl, p_le_t, p_le_f, p_lt_t, p_lt_f, p_eq_t, p_eq_f, bd1_s, bd2_s, bd3_s, nm_s, gd_t, gd_in, gd_nz, gd_bz0, gd_bz1, gd_cp, g0, g1, g2, g3, g4, bd2_s, x_add (show cnt < 10 by omega) (show 10 ≤ 10 by omega)]))
  · rw [eK]
    unfold f_X9_readsItem
    (repeat (simp (disch := omega) only [li_0, li_1, li_2, li_3, li_4, li_5, li_6, li_7, li_8, li_9, li_10, li_11, li_12, li_13, li_14, li_15, li_16, li_17, li_18, li_19, li_20, li_21, li_22, li_23, li_24, li_25, li_26, li_27, li_28, li_29, li_30, li_31, li_32, li_34, li_35, li_40, li_41, li_45, li_48, li_49, li_50, li_57, li_58, li_59, li_60, li_61, li_64, li_65, li_97, li_99, li_100, li_115, li_116, li_121, li_122, li_200, li_255, li_256, li_300, li_999, li_1000, li_12345, li_65535, li_1103515245, if_true, if_false, nI_add, pk_mul, pk_sub, s_div, s_rem, s_cl, p_le_t, p_le_f, p_lt_t, p_lt_f, p_eq_t, p_eq_f, bd1_s, bd2_s, bd3_s, nm_s, gd_t, gd_in, gd_nz, gd_bz0, gd_bz1, gd_cp, en, bd6_s, he0, he1, he2, he3, he4, m1_0]))
end RD
