/-! bits, offers -/
def fb (P : Nat → Prop) [DecidablePred P] (n : Nat) : Nat := (List.range n).foldl (fun x q => if P q then x + 2 ^ q else x) 0
theorem fb_0 (P : Nat → Prop) [DecidablePred P] : fb P 0 = 0 := rfl
theorem fb_s (P : Nat → Prop) [DecidablePred P] (n : Nat) : fb P (n + 1) = if P n then fb P n + 2 ^ n else fb P n := by
  unfold fb
  rw [List.range_succ, List.foldl_append]
  rfl
theorem fb_lt (P : Nat → Prop) [DecidablePred P] (n : Nat) : fb P n < 2 ^ n := by
  induction n with
  | zero => rw [fb_0]; decide
  | succ n ih =>
    rw [fb_s, Nat.pow_succ]
    by_cases h : P n
    · rw [if_pos h]; omega
    · rw [if_neg h]; omega
theorem fb_bit (P : Nat → Prop) [DecidablePred P] (n q : Nat) : (fb P n).testBit q = true ↔ q < n ∧ P q := by
  induction n with
  | zero =>
    rw [fb_0, Nat.zero_testBit]
    exact ⟨fun h => (by cases h), fun h => by omega⟩
  | succ n ih =>
    have hl := fb_lt P n
    rw [fb_s]
    by_cases h : P n
    · rw [if_pos h, Nat.add_comm]
      rcases Nat.lt_trichotomy q n with hq | hq | hq
      · rw [Nat.testBit_two_pow_add_gt hq, ih]
        exact ⟨fun e => ⟨by omega, e.2⟩, fun e => ⟨hq, e.2⟩⟩
      · subst hq
        rw [Nat.testBit_two_pow_add_eq, Nat.testBit_lt_two_pow hl]
        exact ⟨fun _ => ⟨by omega, h⟩, fun _ => rfl⟩
      · have h2 : 2 ^ n + fb P n < 2 ^ q := by
          have h3 : 2 ^ (n + 1) ≤ 2 ^ q := Nat.pow_le_pow_right (by decide) hq
          rw [Nat.pow_succ] at h3
          omega
        rw [Nat.testBit_lt_two_pow h2]
        exact ⟨fun e => (by cases e), fun e => by omega⟩
    · rw [if_neg h, ih]
      refine ⟨fun e => ⟨by omega, e.2⟩, fun e => ⟨?_, e.2⟩⟩
      rcases Nat.lt_or_ge q n with hq | hq
      · exact hq
      · have : q = n := by omega
        subst this
        exact absurd e.2 h
theorem fb_congr (P Q : Nat → Prop) [DecidablePred P] [DecidablePred Q] (n : Nat) (h : ∀ i, i < n → (P i ↔ Q i)) : fb P n = fb Q n := by
  induction n with
  | zero => rw [fb_0, fb_0]
  | succ n ih =>
    rw [fb_s, fb_s, ih (fun i hi => h i (by omega))]
    by_cases hp : P n
    · rw [if_pos hp, if_pos ((h n (by omega)).mp hp)]
    · rw [if_neg hp, if_neg (fun e => hp ((h n (by omega)).mpr e))]
theorem fb_256 (P : Nat → Prop) [DecidablePred P] {n : Nat} (h : n ≤ 8) : fb P n < 256 := by
  have h1 := fb_lt P n
  have h2 : 2 ^ n ≤ 2 ^ 8 := Nat.pow_le_pow_right (by decide) h
  omega
theorem sbits_fb (n a l : Nat) : sbits n a l = fb (fun q => (q + n - a) % n < l) n := rfl
theorem cbits_fb (n : Nat) (od : Nat → Nat) (j : Nat) : cbits n od j = fb (fun i => shareN n od i j = true) j := rfl
theorem sh_am : ∀ n, n < 32 → ((nI n &&& nI 31).toBitVec.smod 32).toNat = n := by decide +kernel
theorem sh_1 {k : Nat} (hk : k < 31) : nI 1 <<< (nI k &&& nI 31) = nI (2 ^ k) := by
  have h := Nat.pow_lt_pow_right (a := 2) (by decide) (show k < 32 by omega)
  rw [pk_shlN (n := 1) _ k (sh_am k (by omega)) (by rw [Nat.one_mul]; exact h), Nat.one_mul]
theorem or_nI (a b : Nat) : nI a ||| nI b = nI (a ||| b) := by
  apply Int32.toBitVec_inj.1
  show BitVec.ofNat 32 a ||| BitVec.ofNat 32 b = BitVec.ofNat 32 (a ||| b)
  apply BitVec.eq_of_getLsbD_eq
  intro i hi
  simp [hi]
theorem or_pw {x k : Nat} (h : x < 2 ^ k) : x ||| 2 ^ k = x + 2 ^ k := by
  have := Nat.two_pow_add_eq_or_of_lt h 1
  rw [Nat.mul_one] at this
  rw [Nat.or_comm, ← this, Nat.add_comm]
theorem bitS {σ k : Nat} (hs : σ < 2147483648) (hk : k < 31) : (nI σ >>> (nI k &&& nI 31)) &&& nI 1 = bI (σ.testBit k) := by
  rw [pk_shrN hs _ k (sh_am k (by omega))]
  have h := fa_mask (σ / 2 ^ k) 1
  rw [show 2 ^ 1 - 1 = 1 from rfl, show 2 ^ 1 = 2 from rfl] at h
  rw [h, Nat.testBit_eq_decide_div_mod_eq]
  rcases Nat.mod_two_eq_zero_or_one (σ / 2 ^ k) with e | e
  · rw [e]; rfl
  · rw [e]; rfl
theorem and_ne (a b : Nat) : a &&& b ≠ 0 ↔ ∃ q, a.testBit q = true ∧ b.testBit q = true := by
  constructor
  · intro h
    obtain ⟨i, hi⟩ := Nat.exists_testBit_of_ne_zero h
    rw [Nat.testBit_and, Bool.and_eq_true] at hi
    exact ⟨i, hi⟩
  · rintro ⟨q, h1, h2⟩ h
    have h3 : (a &&& b).testBit q = true := by rw [Nat.testBit_and, h1, h2]; rfl
    rw [h, Nat.zero_testBit] at h3
    cases h3
theorem gO_L {n nt on : Nat} {od op : Nat → Nat} {oparts : Nat → Int32} (hon : on ≤ 10) (hok : ∀ k, k < on → okL n nt od k) (h : ∀ k, k < on → ∀ e, e < 5 → oparts (5 * k + e) = nI (od (5 * k + e))) : gL n nt on od (nI on) oparts (fun j => if j = 6 then nI on else nI (od (j - 7))) := by
  refine ⟨hon, rfl, rfl, fun j hj => ⟨?_, ?_⟩, hok⟩
  · have h1 := h (j / 5) (by omega) (j % 5) (Nat.mod_lt _ (by decide))
    rw [show 5 * (j / 5) + j % 5 = j by omega] at h1
    exact h1
  · dsimp only
    rw [if_neg (by omega), show 7 + j - 7 = j by omega]
theorem share_any (n : Nat) (od : Nat → Nat) (i j : Nat) : (sbits n (od (5 * i + 1)) (od (5 * i + 2)) &&& sbits n (od (5 * j + 1)) (od (5 * j + 2)) ≠ 0) ↔ (List.range n).any (fun q => decide ((q + n - od (5 * i + 1)) % n < od (5 * i + 2)) && decide ((q + n - od (5 * j + 1)) % n < od (5 * j + 2))) = true := by
  rw [and_ne, List.any_eq_true, sbits_fb, sbits_fb]
  constructor
  · rintro ⟨q, h1, h2⟩
    rw [fb_bit] at h1 h2
    exact ⟨q, List.mem_range.mpr h1.1, by rw [Bool.and_eq_true]; exact ⟨decide_eq_true h1.2, decide_eq_true h2.2⟩⟩
  · rintro ⟨q, h1, h2⟩
    rw [Bool.and_eq_true] at h2
    have h3 := List.mem_range.mp h1
    exact ⟨q, (fb_bit _ _ _).mpr ⟨h3, of_decide_eq_true h2.1⟩, (fb_bit _ _ _).mpr ⟨h3, of_decide_eq_true h2.2⟩⟩
theorem and_256 {a b : Nat} (h : b < 256) : a &&& b < 256 := Nat.and_lt_two_pow (n := 8) a h
theorem x_share {n nt c i j : Nat} {od : Nat → Nat} {ls : Int32} {lp s : Nat → Int32} (hn : n ≤ 8) (hL : gL n nt c od ls lp s) (hc : c ≤ 8) (hi : i < c) (hj : j < c) {sq : Nat → Int32} (h1 : sq i = nI (sbits n (od (5 * i + 1)) (od (5 * i + 2)))) (h2 : sq j = nI (sbits n (od (5 * j + 1)) (od (5 * j + 2)))) : f_X1_shareSquare sq (nI c) lp (nI i) (nI j) = some (bI (shareN n od i j)) := by
  obtain ⟨o1, o2, o3, o4, o5, o6⟩ := hL.2.2.2.2 i hi
  obtain ⟨p1, p2, p3, p4, p5, p6⟩ := hL.2.2.2.2 j hj
  have e3 := x_part0 hL (e := 3) hi (by decide)
  have e4 := x_part0 hL (e := 4) hi (by decide)
  have g3 := x_part0 hL (e := 3) hj (by decide)
  have g4 := x_part0 hL (e := 4) hj (by decide)
  have ha := share_any n od i j
  have hb : sbits n (od (5 * i + 1)) (od (5 * i + 2)) &&& sbits n (od (5 * j + 1)) (od (5 * j + 2)) < 256 := and_256 (fb_256 _ hn)
  unfold f_X1_shareSquare shareN
  generalize sbits n (od (5 * i + 1)) (od (5 * i + 2)) = x at *
  generalize sbits n (od (5 * j + 1)) (od (5 * j + 2)) = y at *
  generalize (List.range n).any (fun q => decide ((q + n - od (5 * i + 1)) % n < od (5 * i + 2)) && decide ((q + n - od (5 * j + 1)) % n < od (5 * j + 2))) = b at *
  have fa := fa_and x y
  by_cases h0 : x &&& y = 0
  · have hb0 : b = false := by
      cases b with
      | false => rfl
      | true => exact absurd h0 (ha.mpr rfl)
    rw [hb0]
    rw [h0] at fa
    (repeat (simp (disch := omega) only [li_0, li_1, li_2, li_3, li_4, li_5, li_6, li_7, li_8, li_9, li_10, li_11, li_12, li_13, li_14, li_15, li_16, li_17, li_18, li_19, li_20, li_21, li_22, li_23, li_24, li_25, li_26, li_27, li_28, li_29, li_30, li_31, li_32, li_34, li_35, li_40, li_41, li_45, li_48, li_49, li_50, li_57, li_58, li_59, li_60, li_61, li_64, li_65, li_97, li_99, li_100, li_115, li_116, li_121, li_122, li_200, li_255, li_256, li_300, li_999, li_1000, li_12345, li_65535, li_1103515245, if_true, if_false, nI_add, pk_mul, pk_sub, s_div, s_rem, s_cl, p_le_t, p_le_f, p_lt_t, p_lt_f, p_eq_t, p_eq_f, bd1_s, bd2_s, bd3_s, nm_s, gd_t, gd_in, gd_nz, gd_bz0, gd_bz1, gd_cp, h1, h2, fa, Bool.false_and, bI_f]))
  · have hb0 : b = true := ha.mp h0
    rw [hb0]
    by_cases q1 : od (5 * i + 3) ≤ od (5 * j + 4)
    · by_cases q2 : od (5 * j + 3) ≤ od (5 * i + 4)
      · (repeat (simp (disch := omega) only [li_0, li_1, li_2, li_3, li_4, li_5, li_6, li_7, li_8, li_9, li_10, li_11, li_12, li_13, li_14, li_15, li_16, li_17, li_18, li_19, li_20, li_21, li_22, li_23, li_24, li_25, li_26, li_27, li_28, li_29, li_30, li_31, li_32, li_34, li_35, li_40, li_41, li_45, li_48, li_49, li_50, li_57, li_58, li_59, li_60, li_61, li_64, li_65, li_97, li_99, li_100, li_115, li_116, li_121, li_122, li_200, li_255, li_256, li_300, li_999, li_1000, li_12345, li_65535, li_1103515245, if_true, if_false, nI_add, pk_mul, pk_sub, s_div, s_rem, s_cl, p_le_t, p_le_f, p_lt_t, p_lt_f, p_eq_t, p_eq_f, bd1_s, bd2_s, bd3_s, nm_s, gd_t, gd_in, gd_nz, gd_bz0, gd_bz1, gd_cp, h1, h2, fa, e3, e4, g3, g4, decide_eq_true q1, decide_eq_true q2, Bool.and_self, bI_t]))
      · (repeat (simp (disch := omega) only [li_0, li_1, li_2, li_3, li_4, li_5, li_6, li_7, li_8, li_9, li_10, li_11, li_12, li_13, li_14, li_15, li_16, li_17, li_18, li_19, li_20, li_21, li_22, li_23, li_24, li_25, li_26, li_27, li_28, li_29, li_30, li_31, li_32, li_34, li_35, li_40, li_41, li_45, li_48, li_49, li_50, li_57, li_58, li_59, li_60, li_61, li_64, li_65, li_97, li_99, li_100, li_115, li_116, li_121, li_122, li_200, li_255, li_256, li_300, li_999, li_1000, li_12345, li_65535, li_1103515245, if_true, if_false, nI_add, pk_mul, pk_sub, s_div, s_rem, s_cl, p_le_t, p_le_f, p_lt_t, p_lt_f, p_eq_t, p_eq_f, bd1_s, bd2_s, bd3_s, nm_s, gd_t, gd_in, gd_nz, gd_bz0, gd_bz1, gd_cp, h1, h2, fa, e3, e4, g3, g4, decide_eq_true q1, decide_eq_false q2, Bool.and_self, Bool.and_false, bI_f]))
    · (repeat (simp (disch := omega) only [li_0, li_1, li_2, li_3, li_4, li_5, li_6, li_7, li_8, li_9, li_10, li_11, li_12, li_13, li_14, li_15, li_16, li_17, li_18, li_19, li_20, li_21, li_22, li_23, li_24, li_25, li_26, li_27, li_28, li_29, li_30, li_31, li_32, li_34, li_35, li_40, li_41, li_45, li_48, li_49, li_50, li_57, li_58, li_59, li_60, li_61, li_64, li_65, li_97, li_99, li_100, li_115, li_116, li_121, li_122, li_200, li_255, li_256, li_300, li_999, li_1000, li_12345, li_65535, li_1103515245, if_true, if_false, nI_add, pk_mul, pk_sub, s_div, s_rem, s_cl, p_le_t, p_le_f, p_lt_t, p_lt_f, p_eq_t, p_eq_f, bd1_s, bd2_s, bd3_s, nm_s, gd_t, gd_in, gd_nz, gd_bz0, gd_bz1, gd_cp, h1, h2, fa, e3, e4, g3, g4, decide_eq_false q1, Bool.and_false, Bool.false_and, bI_f]))
theorem x_set88 {n nt c : Nat} {od : Nat → Nat} {ls : Int32} {lp s : Nat → Int32} (hn : n ≤ 8) (hL : gL n nt (c + 1) od ls lp s) (hc : c < 8) {sq : Nat → Int32} (hsq : ∀ k, k < c + 1 → sq k = nI (sbits n (od (5 * k + 1)) (od (5 * k + 2)))) (pr : Nat → Int32) : ∀ (r i nn : Nat) (cl : Nat → Int32), i + r = c → r < nn → cl c = nI (fb (fun i => shareN n od i c = true) i) → ∃ cl' : Nat → Int32, f_X1_settleLast_b88 (nI (c + 1)) lp (nI c) pr sq nn (nI i) cl = some (pr, sq, cl') ∧ cl' c = nI (cbits n od c) ∧ ∀ k, k ≠ c → cl' k = cl k := by
  intro r
  induction r with
  | zero =>
    intro i nn cl hi hnn hcl
    obtain ⟨m, rfl⟩ : ∃ m, nn = m + 1 := ⟨nn - 1, by omega⟩
    refine ⟨cl, ?_, ?_, fun _ _ => rfl⟩
    · rw [f_X1_settleLast_b88]
      (repeat (simp (disch := omega) only [li_0, li_1, li_2, li_3, li_4, li_5, li_6, li_7, li_8, li_9, li_10, li_11, li_12, li_13, li_14, li_15, li_16, li_17, li_18, li_19, li_20, li_21, li_22, li_23, li_24, li_25, li_26, li_27, li_28, li_29, li_30, li_31, li_32, li_34, li_35, li_40, li_41, li_45, li_48, li_49, li_50, li_57, li_58, li_59, li_60, li_61, li_64, li_65, li_97, li_99, li_100, li_115, li_116, li_121, li_122, li_200, li_255, li_256, li_300, li_999, li_1000, li_12345, li_65535, li_1103515245, if_true, if_false, nI_add, pk_mul, pk_sub, s_div, s_rem, s_cl, p_le_t, p_le_f, p_lt_t, p_lt_f, p_eq_t, p_eq_f, bd1_s, bd2_s, bd3_s, nm_s, gd_t, gd_in, gd_nz, gd_bz0, gd_bz1, gd_cp]))
    · rw [hcl, cbits_fb, show i = c by omega]
  | succ r ih =>
    intro i nn cl hi hnn hcl
    obtain ⟨m, rfl⟩ : ∃ m, nn = m + 1 := ⟨nn - 1, by omega⟩
    have e1 := x_share hn hL (by omega) (show i < c + 1 by omega) (show c < c + 1 by omega) (hsq i (by omega)) (hsq c (by omega))
    have hf := fb_s (fun i => shareN n od i c = true) i
    have hl := fb_lt (fun i => shareN n od i c = true) i
    rw [f_X1_settleLast_b88]
    unfold f_X1_settleLast_b117
    cases hb : shareN n od i c with
    | false =>
      rw [if_neg (by rw [hb]; decide)] at hf
      obtain ⟨cl', k1, k2, k3⟩ := ih (i + 1) m cl (by omega) (by omega) (by rw [hf]; exact hcl)
      refine ⟨cl', ?_, k2, k3⟩
      (repeat (simp (disch := omega) only [li_0, li_1, li_2, li_3, li_4, li_5, li_6, li_7, li_8, li_9, li_10, li_11, li_12, li_13, li_14, li_15, li_16, li_17, li_18, li_19, li_20, li_21, li_22, li_23, li_24, li_25, li_26, li_27, li_28, li_29, li_30, li_31, li_32, li_34, li_35, li_40, li_41, li_45, li_48, li_49, li_50, li_57, li_58, li_59, li_60, li_61, li_64, li_65, li_97, li_99, li_100, li_115, li_116, li_121, li_122, li_200, li_255, li_256, li_300, li_999, li_1000, li_12345, li_65535, li_1103515245, if_true, if_false, nI_add, pk_mul, pk_sub, s_div, s_rem, s_cl, p_le_t, p_le_f, p_lt_t, p_lt_f, p_eq_t, p_eq_f, bd1_s, bd2_s, bd3_s, nm_s, gd_t, gd_in, gd_nz, gd_bz0, gd_bz1, gd_cp, e1, hb, bI_f, k1]))
    | true =>
      rw [if_pos hb] at hf
      have eo : nI (fb (fun i => shareN n od i c = true) i) ||| nI (2 ^ i) = nI (fb (fun i => shareN n od i c = true) i + 2 ^ i) := by rw [or_nI, or_pw hl]
      have es := sh_1 (show i < 31 by omega)
      obtain ⟨cl', k1, k2, k3⟩ := ih (i + 1) m (upd cl c (nI (fb (fun i => shareN n od i c = true) i + 2 ^ i))) (by omega) (by omega) (by rw [hf]; exact pk_us)
      refine ⟨cl', ?_, k2, fun k hk => (k3 k hk).trans (pk_un hk)⟩
      (repeat (simp (disch := omega) only [li_0, li_1, li_2, li_3, li_4, li_5, li_6, li_7, li_8, li_9, li_10, li_11, li_12, li_13, li_14, li_15, li_16, li_17, li_18, li_19, li_20, li_21, li_22, li_23, li_24, li_25, li_26, li_27, li_28, li_29, li_30, li_31, li_32, li_34, li_35, li_40, li_41, li_45, li_48, li_49, li_50, li_57, li_58, li_59, li_60, li_61, li_64, li_65, li_97, li_99, li_100, li_115, li_116, li_121, li_122, li_200, li_255, li_256, li_300, li_999, li_1000, li_12345, li_65535, li_1103515245, if_true, if_false, nI_add, pk_mul, pk_sub, s_div, s_rem, s_cl, p_le_t, p_le_f, p_lt_t, p_lt_f, p_eq_t, p_eq_f, bd1_s, bd2_s, bd3_s, nm_s, gd_t, gd_in, gd_nz, gd_bz0, gd_bz1, gd_cp, e1, hb, bI_t, hcl, es, eo, k1]))
theorem x_set39 {n nt c : Nat} {od : Nat → Nat} {ls : Int32} {lp s : Nat → Int32} (hn : n ≤ 8) (hL : gL n nt (c + 1) od ls lp s) (hc : c < 8) (pr cl : Nat → Int32) : ∀ (r q nn : Nat) (sq : Nat → Int32), q + r = n → r < nn → sq c = nI (fb (fun q => (q + n - od (5 * c + 1)) % n < od (5 * c + 2)) q) → ∃ sq' : Nat → Int32, f_X1_settleLast_b39 (nI (c + 1)) lp (nI n) (nI c) pr cl nn (nI q) sq = f_X1_settleLast_b88 (nI (c + 1)) lp (nI c) pr sq' zF (nI 0) (upd cl c (nI 0)) ∧ sq' c = nI (sbits n (od (5 * c + 1)) (od (5 * c + 2))) ∧ ∀ k, k ≠ c → sq' k = sq k := by
  intro r
  induction r with
  | zero =>
    intro q nn sq hq hnn hsq
    obtain ⟨m, rfl⟩ : ∃ m, nn = m + 1 := ⟨nn - 1, by omega⟩
    refine ⟨sq, ?_, ?_, fun _ _ => rfl⟩
    · rw [f_X1_settleLast_b39]
      (repeat (simp (disch := omega) only [li_0, li_1, li_2, li_3, li_4, li_5, li_6, li_7, li_8, li_9, li_10, li_11, li_12, li_13, li_14, li_15, li_16, li_17, li_18, li_19, li_20, li_21, li_22, li_23, li_24, li_25, li_26, li_27, li_28, li_29, li_30, li_31, li_32, li_34, li_35, li_40, li_41, li_45, li_48, li_49, li_50, li_57, li_58, li_59, li_60, li_61, li_64, li_65, li_97, li_99, li_100, li_115, li_116, li_121, li_122, li_200, li_255, li_256, li_300, li_999, li_1000, li_12345, li_65535, li_1103515245, if_true, if_false, nI_add, pk_mul, pk_sub, s_div, s_rem, s_cl, p_le_t, p_le_f, p_lt_t, p_lt_f, p_eq_t, p_eq_f, bd1_s, bd2_s, bd3_s, nm_s, gd_t, gd_in, gd_nz, gd_bz0, gd_bz1, gd_cp]))
    · rw [hsq, sbits_fb, show q = n by omega]
  | succ r ih =>
    intro q nn sq hq hnn hsq
    obtain ⟨m, rfl⟩ : ∃ m, nn = m + 1 := ⟨nn - 1, by omega⟩
    have e1 := x_hasSquare hn hL (show c < c + 1 by omega) (show q < n by omega)
    have hf := fb_s (fun q => (q + n - od (5 * c + 1)) % n < od (5 * c + 2)) q
    have hl := fb_lt (fun q => (q + n - od (5 * c + 1)) % n < od (5 * c + 2)) q
    rw [f_X1_settleLast_b39]
    unfold f_X1_settleLast_b72
    by_cases hb : (q + n - od (5 * c + 1)) % n < od (5 * c + 2)
    · rw [if_pos hb] at hf
      have eo : nI (fb (fun q => (q + n - od (5 * c + 1)) % n < od (5 * c + 2)) q) ||| nI (2 ^ q) = nI (fb (fun q => (q + n - od (5 * c + 1)) % n < od (5 * c + 2)) q + 2 ^ q) := by rw [or_nI, or_pw hl]
      have es := sh_1 (show q < 31 by omega)
      obtain ⟨cl', k1, k2, k3⟩ := ih (q + 1) m (upd sq c (nI (fb (fun q => (q + n - od (5 * c + 1)) % n < od (5 * c + 2)) q + 2 ^ q))) (by omega) (by omega) (by rw [hf]; exact pk_us)
      refine ⟨cl', ?_, k2, fun k hk => (k3 k hk).trans (pk_un hk)⟩
      rw [decide_eq_true hb, bI_t] at e1
      (repeat (simp (disch := omega) only [li_0, li_1, li_2, li_3, li_4, li_5, li_6, li_7, li_8, li_9, li_10, li_11, li_12, li_13, li_14, li_15, li_16, li_17, li_18, li_19, li_20, li_21, li_22, li_23, li_24, li_25, li_26, li_27, li_28, li_29, li_30, li_31, li_32, li_34, li_35, li_40, li_41, li_45, li_48, li_49, li_50, li_57, li_58, li_59, li_60, li_61, li_64, li_65, li_97, li_99, li_100, li_115, li_116, li_121, li_122, li_200, li_255, li_256, li_300, li_999, li_1000, li_12345, li_65535, li_1103515245, if_true, if_false, nI_add, pk_mul, pk_sub, s_div, s_rem, s_cl, p_le_t, p_le_f, p_lt_t, p_lt_f, p_eq_t, p_eq_f, bd1_s, bd2_s, bd3_s, nm_s, gd_t, gd_in, gd_nz, gd_bz0, gd_bz1, gd_cp, e1, hsq, es, eo, k1]))
    · rw [if_neg hb] at hf
      obtain ⟨cl', k1, k2, k3⟩ := ih (q + 1) m sq (by omega) (by omega) (by rw [hf]; exact hsq)
      refine ⟨cl', ?_, k2, k3⟩
      rw [decide_eq_false hb, bI_f] at e1
      (repeat (simp (disch := omega) only [li_0, li_1, li_2, li_3, li_4, li_5, li_6, li_7, li_8, li_9, li_10, li_11, li_12, li_13, li_14, li_15, li_16, li_17, li_18, li_19, li_20, li_21, li_22, li_23, li_24, li_25, li_26, li_27, li_28, li_29, li_30, li_31, li_32, li_34, li_35, li_40, li_41, li_45, li_48, li_49, li_50, li_57, li_58, li_59, li_60, li_61, li_64, li_65, li_97, li_99, li_100, li_115, li_116, li_121, li_122, li_200, li_255, li_256, li_300, li_999, li_1000, li_12345, li_65535, li_1103515245, if_true, if_false, nI_add, pk_mul, pk_sub, s_div, s_rem, s_cl, p_le_t, p_le_f, p_lt_t, p_lt_f, p_eq_t, p_eq_f, bd1_s, bd2_s, bd3_s, nm_s, gd_t, gd_in, gd_nz, gd_bz0, gd_bz1, gd_cp, e1, k1]))
theorem x_settle {n nt c p : Nat} {od : Nat → Nat} {ls : Int32} {lp s : Nat → Int32} (hn : n ≤ 8) (hL : gL n nt (c + 1) od ls lp s) (hc : c < 8) (pr sq cl : Nat → Int32) (hsq : ∀ k, k < c → sq k = nI (sbits n (od (5 * k + 1)) (od (5 * k + 2)))) : ∃ sq' cl' : Nat → Int32, f_X1_settleLast (nI (c + 1)) pr sq cl lp (nI p) (nI n) = some (upd pr c (nI p), sq', cl') ∧ sq' c = nI (sbits n (od (5 * c + 1)) (od (5 * c + 2))) ∧ (∀ k, k ≠ c → sq' k = sq k) ∧ cl' c = nI (cbits n od c) ∧ ∀ k, k ≠ c → cl' k = cl k := by
  obtain ⟨sq', a1, a2, a3⟩ := x_set39 hn hL hc (upd pr c (nI p)) cl n 0 zF (upd sq c (nI 0)) (by omega) (by unfold zF; omega) pk_us
  obtain ⟨cl', b1, b2, b3⟩ := x_set88 hn hL hc (sq := sq') (fun k hk => by
    by_cases h : k = c
    · subst h; exact a2
    · rw [a3 k h, pk_un h]; exact hsq k (by omega)) (upd pr c (nI p)) c 0 zF (upd cl c (nI 0)) (by omega) (by unfold zF; omega) pk_us
  refine ⟨sq', cl', ?_, a2, fun k hk => (a3 k hk).trans (pk_un hk), b2, fun k hk => (b3 k hk).trans (pk_un hk)⟩
  have hs : nI (c + 1) - nI 1 = nI c := by rw [pk_sub (by omega), Nat.add_sub_cancel]
  have hh := x_has (show c < c + 1 by omega) (by omega)
  unfold f_X1_settleLast
  (repeat (simp (disch := omega) only [li_0, li_1, li_2, li_3, li_4, li_5, li_6, li_7, li_8, li_9, li_10, li_11, li_12, li_13, li_14, li_15, li_16, li_17, li_18, li_19, li_20, li_21, li_22, li_23, li_24, li_25, li_26, li_27, li_28, li_29, li_30, li_31, li_32, li_34, li_35, li_40, li_41, li_45, li_48, li_49, li_50, li_57, li_58, li_59, li_60, li_61, li_64, li_65, li_97, li_99, li_100, li_115, li_116, li_121, li_122, li_200, li_255, li_256, li_300, li_999, li_1000, li_12345, li_65535, li_1103515245, if_true, if_false, nI_add, pk_mul, pk_sub, s_div, s_rem, s_cl, p_le_t, p_le_f, p_lt_t, p_lt_f, p_eq_t, p_eq_f, bd1_s, bd2_s, bd3_s, nm_s, gd_t, gd_in, gd_nz, gd_bz0, gd_bz1, gd_cp, hs, hh, a1, b1]))
theorem six {P : Nat → Prop} {k : Nat} (h0 : P 0) (h1 : P 1) (h2 : P 2) (h3 : P 3) (h4 : P 4) (hk : k < 5) : P k := by
  rcases (show k = 0 ∨ k = 1 ∨ k = 2 ∨ k = 3 ∨ k = 4 by omega) with rfl | rfl | rfl | rfl | rfl <;> assumption
theorem share_lo {n c i k : Nat} {od od' : Nat → Nat} (h : ∀ j, j < 5 * c → od' j = od j) (hi : i < c) (hk : k < c) : shareN n od' i k = shareN n od i k := by
  unfold shareN
  rw [h (5 * i + 1) (by omega), h (5 * i + 2) (by omega), h (5 * i + 3) (by omega), h (5 * i + 4) (by omega), h (5 * k + 1) (by omega), h (5 * k + 2) (by omega), h (5 * k + 3) (by omega), h (5 * k + 4) (by omega)]
theorem cbits_lo {n c k : Nat} {od od' : Nat → Nat} (h : ∀ j, j < 5 * c → od' j = od j) (hk : k < c) : cbits n od' k = cbits n od k := by
  rw [cbits_fb, cbits_fb]
  apply fb_congr
  intro i hi
  rw [share_lo h (by omega) hk]
theorem pm_offer (v : Nat → Int32) (r : Nat → Nat → Int32) (t : Int64) (vm : Nat → Int32) (rm : Nat → Nat → Int32) (tm : Int64) (hI : Inv v r t vm rm tm) (g1 : Int32) (g2 : Int32) (g3 : Int32) (g4 : Int32) (g5 : Int32) (g6 : Int32) : ∃ (R0 : Int32) (w0 : Int32) (w1 : Nat → Int32) (w2 : Nat → Int32) (w3 : Nat → Int32) (w4 : Nat → Int32) (z0 : Int32) (z1 : Int32) (z2 : Nat → Int32), f_X8_offer (v 5) (v 7) (v 33) (v 34) (r 25) (r 26) (r 27) (r 28) g1 g2 g3 g4 g5 g6 = some (R0, w0, w1, w2, w3, w4) ∧ f_X9_offer (vm 0) (vm 7) (vm 9) (vm 14) (rm 7) g1 g2 g3 g4 g5 g6 = some (R0, z0, z1, z2) ∧ Inv (upd v 34 w0) (updA (updA (updA (updA r 25 w1) 26 w2) 27 w3) 28 w4) t (upd (upd vm 0 z0) 14 z1) (updA rm 7 z2) tm := by
  obtain ⟨n, ns, nt, sa, sp, sb, hS, hT, hN, hI0, hI1, ⟨on, od, op, o1, o2, o3, o4⟩, hEe, htr, m8, m13, m17, m19, m33⟩ := id hI
  obtain ⟨b1, b2, b3, b4, s1, s2, s3, s4, s5, s6, hst⟩ := id hS
  have hsame : Inv (upd v 34 (nI on)) (updA (updA (updA (updA r 25 (r 25)) 26 (r 26)) 27 (r 27)) 28 (r 28)) t (upd (upd vm 0 (nI 0)) 14 (nI on)) (updA rm 7 (rm 7)) tm := ⟨n, ns, nt, sa, sp, sb, hS, hT, hN, hI0, hI1, ⟨on, od, op, o1, rfl, rfl, o4⟩, hEe, htr, m8, m13, m17, m19, m33⟩
  unfold f_X8_offer f_X9_offer f_X6_isFull
  rw [s1, s2, s5, s6, o2, o3, m33, in_eq]
  simp only [li_0, li_1, li_2, li_3, li_4, li_5, li_6, li_7, li_8, li_9, li_10, li_11, li_12, li_13, li_14, li_15, li_16, li_17, li_18, li_19, li_20, li_21, li_22, li_23, li_24, li_25, li_26, li_27, li_28, li_29, li_30, li_31, li_32, li_34, li_35, li_40, li_41, li_45, li_48, li_49, li_50, li_57, li_58, li_59, li_60, li_61, li_64, li_65, li_97, li_99, li_100, li_115, li_116, li_121, li_122, li_200, li_255, li_256, li_300, li_999, li_1000, li_12345, li_65535, li_1103515245]
  rcases terms b2 b4 g1 g2 g3 g4 g5 with ⟨e1, e2⟩ | ⟨t', a, l, f, u, c1, c2, c3, c4, c5, c6, rfl, rfl, rfl, rfl, rfl, e1, e2⟩
  · exact ⟨-1, nI on, r 25, r 26, r 27, r 28, nI 0, nI on, rm 7, by rw [e1]; (repeat (simp (disch := omega) only [li_0, li_1, li_2, li_3, li_4, li_5, li_6, li_7, li_8, li_9, li_10, li_11, li_12, li_13, li_14, li_15, li_16, li_17, li_18, li_19, li_20, li_21, li_22, li_23, li_24, li_25, li_26, li_27, li_28, li_29, li_30, li_31, li_32, li_34, li_35, li_40, li_41, li_45, li_48, li_49, li_50, li_57, li_58, li_59, li_60, li_61, li_64, li_65, li_97, li_99, li_100, li_115, li_116, li_121, li_122, li_200, li_255, li_256, li_300, li_999, li_1000, li_12345, li_65535, li_1103515245, if_true, if_false, nI_add, pk_mul, pk_sub, s_div, s_rem, s_cl, p_le_t, p_le_f, p_lt_t, p_lt_f, p_eq_t, p_eq_f, bd1_s, bd2_s, bd3_s, nm_s, gd_t, gd_in, gd_nz, gd_bz0, gd_bz1, gd_cp])), by rw [e2]; (repeat (simp (disch := omega) only [li_0, li_1, li_2, li_3, li_4, li_5, li_6, li_7, li_8, li_9, li_10, li_11, li_12, li_13, li_14, li_15, li_16, li_17, li_18, li_19, li_20, li_21, li_22, li_23, li_24, li_25, li_26, li_27, li_28, li_29, li_30, li_31, li_32, li_34, li_35, li_40, li_41, li_45, li_48, li_49, li_50, li_57, li_58, li_59, li_60, li_61, li_64, li_65, li_97, li_99, li_100, li_115, li_116, li_121, li_122, li_200, li_255, li_256, li_300, li_999, li_1000, li_12345, li_65535, li_1103515245, if_true, if_false, nI_add, pk_mul, pk_sub, s_div, s_rem, s_cl, p_le_t, p_le_f, p_lt_t, p_lt_f, p_eq_t, p_eq_f, bd1_s, bd2_s, bd3_s, nm_s, gd_t, gd_in, gd_nz, gd_bz0, gd_bz1, gd_cp])), hsame⟩
  rw [e1, e2]
  rcases num_cases g6 100 (by decide) with ho | ⟨p, hp, rfl⟩
  · have w := wi_out (a := 1) (c := 99) (by decide) (by decide) ho
    exact ⟨-1, nI on, r 25, r 26, r 27, r 28, nI 0, nI on, rm 7, by rw [w]; (repeat (simp (disch := omega) only [li_0, li_1, li_2, li_3, li_4, li_5, li_6, li_7, li_8, li_9, li_10, li_11, li_12, li_13, li_14, li_15, li_16, li_17, li_18, li_19, li_20, li_21, li_22, li_23, li_24, li_25, li_26, li_27, li_28, li_29, li_30, li_31, li_32, li_34, li_35, li_40, li_41, li_45, li_48, li_49, li_50, li_57, li_58, li_59, li_60, li_61, li_64, li_65, li_97, li_99, li_100, li_115, li_116, li_121, li_122, li_200, li_255, li_256, li_300, li_999, li_1000, li_12345, li_65535, li_1103515245, if_true, if_false, nI_add, pk_mul, pk_sub, s_div, s_rem, s_cl, p_le_t, p_le_f, p_lt_t, p_lt_f, p_eq_t, p_eq_f, bd1_s, bd2_s, bd3_s, nm_s, gd_t, gd_in, gd_nz, gd_bz0, gd_bz1, gd_cp])), by rw [w]; (repeat (simp (disch := omega) only [li_0, li_1, li_2, li_3, li_4, li_5, li_6, li_7, li_8, li_9, li_10, li_11, li_12, li_13, li_14, li_15, li_16, li_17, li_18, li_19, li_20, li_21, li_22, li_23, li_24, li_25, li_26, li_27, li_28, li_29, li_30, li_31, li_32, li_34, li_35, li_40, li_41, li_45, li_48, li_49, li_50, li_57, li_58, li_59, li_60, li_61, li_64, li_65, li_97, li_99, li_100, li_115, li_116, li_121, li_122, li_200, li_255, li_256, li_300, li_999, li_1000, li_12345, li_65535, li_1103515245, if_true, if_false, nI_add, pk_mul, pk_sub, s_div, s_rem, s_cl, p_le_t, p_le_f, p_lt_t, p_lt_f, p_eq_t, p_eq_f, bd1_s, bd2_s, bd3_s, nm_s, gd_t, gd_in, gd_nz, gd_bz0, gd_bz1, gd_cp])), hsame⟩
  by_cases hp0 : p = 0
  · have w := wi_no (j := p) (a := 1) (c := 99) (by omega) (by omega) (by decide)
    exact ⟨-1, nI on, r 25, r 26, r 27, r 28, nI 0, nI on, rm 7, by rw [w]; (repeat (simp (disch := omega) only [li_0, li_1, li_2, li_3, li_4, li_5, li_6, li_7, li_8, li_9, li_10, li_11, li_12, li_13, li_14, li_15, li_16, li_17, li_18, li_19, li_20, li_21, li_22, li_23, li_24, li_25, li_26, li_27, li_28, li_29, li_30, li_31, li_32, li_34, li_35, li_40, li_41, li_45, li_48, li_49, li_50, li_57, li_58, li_59, li_60, li_61, li_64, li_65, li_97, li_99, li_100, li_115, li_116, li_121, li_122, li_200, li_255, li_256, li_300, li_999, li_1000, li_12345, li_65535, li_1103515245, if_true, if_false, nI_add, pk_mul, pk_sub, s_div, s_rem, s_cl, p_le_t, p_le_f, p_lt_t, p_lt_f, p_eq_t, p_eq_f, bd1_s, bd2_s, bd3_s, nm_s, gd_t, gd_in, gd_nz, gd_bz0, gd_bz1, gd_cp])), by rw [w]; (repeat (simp (disch := omega) only [li_0, li_1, li_2, li_3, li_4, li_5, li_6, li_7, li_8, li_9, li_10, li_11, li_12, li_13, li_14, li_15, li_16, li_17, li_18, li_19, li_20, li_21, li_22, li_23, li_24, li_25, li_26, li_27, li_28, li_29, li_30, li_31, li_32, li_34, li_35, li_40, li_41, li_45, li_48, li_49, li_50, li_57, li_58, li_59, li_60, li_61, li_64, li_65, li_97, li_99, li_100, li_115, li_116, li_121, li_122, li_200, li_255, li_256, li_300, li_999, li_1000, li_12345, li_65535, li_1103515245, if_true, if_false, nI_add, pk_mul, pk_sub, s_div, s_rem, s_cl, p_le_t, p_le_f, p_lt_t, p_lt_f, p_eq_t, p_eq_f, bd1_s, bd2_s, bd3_s, nm_s, gd_t, gd_in, gd_nz, gd_bz0, gd_bz1, gd_cp])), hsame⟩
  have w := wi_in (j := p) (a := 1) (c := 99) (by omega) (by omega) (by decide)
  rw [w]
  by_cases hc : on = 8
  · exact ⟨-3, nI on, r 25, r 26, r 27, r 28, nI 0, nI on, rm 7, by (repeat (simp (disch := omega) only [li_0, li_1, li_2, li_3, li_4, li_5, li_6, li_7, li_8, li_9, li_10, li_11, li_12, li_13, li_14, li_15, li_16, li_17, li_18, li_19, li_20, li_21, li_22, li_23, li_24, li_25, li_26, li_27, li_28, li_29, li_30, li_31, li_32, li_34, li_35, li_40, li_41, li_45, li_48, li_49, li_50, li_57, li_58, li_59, li_60, li_61, li_64, li_65, li_97, li_99, li_100, li_115, li_116, li_121, li_122, li_200, li_255, li_256, li_300, li_999, li_1000, li_12345, li_65535, li_1103515245, if_true, if_false, nI_add, pk_mul, pk_sub, s_div, s_rem, s_cl, p_le_t, p_le_f, p_lt_t, p_lt_f, p_eq_t, p_eq_f, bd1_s, bd2_s, bd3_s, nm_s, gd_t, gd_in, gd_nz, gd_bz0, gd_bz1, gd_cp])), by (repeat (simp (disch := omega) only [li_0, li_1, li_2, li_3, li_4, li_5, li_6, li_7, li_8, li_9, li_10, li_11, li_12, li_13, li_14, li_15, li_16, li_17, li_18, li_19, li_20, li_21, li_22, li_23, li_24, li_25, li_26, li_27, li_28, li_29, li_30, li_31, li_32, li_34, li_35, li_40, li_41, li_45, li_48, li_49, li_50, li_57, li_58, li_59, li_60, li_61, li_64, li_65, li_97, li_99, li_100, li_115, li_116, li_121, li_122, li_200, li_255, li_256, li_300, li_999, li_1000, li_12345, li_65535, li_1103515245, if_true, if_false, nI_add, pk_mul, pk_sub, s_div, s_rem, s_cl, p_le_t, p_le_f, p_lt_t, p_lt_f, p_eq_t, p_eq_f, bd1_s, bd2_s, bd3_s, nm_s, gd_t, gd_in, gd_nz, gd_bz0, gd_bz1, gd_cp])), hsame⟩
  have hlo : ∀ j, j < 5 * on → addL od on t' a l f u j = od j := fun j hj => addL_lo hj
  have hok : ∀ k, k < on + 1 → okL n nt (addL od on t' a l f u) k := addL_ok (fun k hk => (o4 k hk).1) c1 c2 c3 c4 c5 c6
  have hparts : ∀ k, k < on + 1 → ∀ e, e < 5 → add5 (r 25) on (nI t') (nI a) (nI l) (nI f) (nI u) (5 * k + e) = nI (addL od on t' a l f u (5 * k + e)) := by
    intro k hk e he
    by_cases h : k < on
    · rw [add5_lo (by omega), addL_lo (by omega)]
      exact ((o4 k h).2.2.2.1 e he).1
    · have hk2 : k = on := by omega
      subst hk2
      refine six (P := fun e => add5 (r 25) k (nI t') (nI a) (nI l) (nI f) (nI u) (5 * k + e) = nI (addL od k t' a l f u (5 * k + e))) ?_ ?_ ?_ ?_ ?_ he
      · rw [Nat.add_zero, add5_0, addL_0]
      · rw [add5_1, addL_hi]; rfl
      · rw [add5_2, addL_hi]; rfl
      · rw [add5_3, addL_hi]; rfl
      · rw [add5_4, addL_hi]; rfl
  have hL := gO_L (n := n) (nt := nt) (op := op) (show on + 1 ≤ 10 by omega) hok hparts
  obtain ⟨sq', cl', x1, x2, x3, x4, x5⟩ := x_settle (p := p) b2 hL (by omega) (r 26) (r 27) (r 28) (fun k hk => by
    rw [hlo _ (by omega), hlo _ (by omega)]
    exact (o4 k hk).2.2.2.2.2.2.1)
  obtain ⟨sA, hsA⟩ : ∃ x : Nat → Int32, upd (upd (upd (upd (upd (upd (rm 7) (6 * on) (nI t')) (6 * on + 1) (nI a)) (6 * on + 2) (nI l)) (6 * on + 3) (nI f)) (6 * on + 4) (nI u)) (6 * on + 5) (nI p) = x := ⟨_, rfl⟩
  have sAlo : ∀ j, j < 6 * on → sA j = rm 7 j := fun j hj => by rw [← hsA, pk_un (by omega), pk_un (by omega), pk_un (by omega), pk_un (by omega), pk_un (by omega), pk_un (by omega)]
  have sA0 : sA (6 * on) = nI t' := by rw [← hsA, pk_un (by omega), pk_un (by omega), pk_un (by omega), pk_un (by omega), pk_un (by omega), pk_us]
  have sA1 : sA (6 * on + 1) = nI a := by rw [← hsA, pk_un (by omega), pk_un (by omega), pk_un (by omega), pk_un (by omega), pk_us]
  have sA2 : sA (6 * on + 2) = nI l := by rw [← hsA, pk_un (by omega), pk_un (by omega), pk_un (by omega), pk_us]
  have sA3 : sA (6 * on + 3) = nI f := by rw [← hsA, pk_un (by omega), pk_un (by omega), pk_us]
  have sA4 : sA (6 * on + 4) = nI u := by rw [← hsA, pk_un (by omega), pk_us]
  have sA5 : sA (6 * on + 5) = nI p := by rw [← hsA, pk_us]
  refine ⟨nI (on + 1 - 1), nI (on + 1), add5 (r 25) on (nI t') (nI a) (nI l) (nI f) (nI u), upd (r 26) on (nI p), sq', cl', nI 0, nI (on + 1), sA, ?_, ?_, n, ns, nt, sa, sp, sb, hS, hT, hN, hI0, hI1, ⟨on + 1, addL od on t' a l f u, fun k => if k = on then p else op k, by omega, rfl, rfl, fun k hk => ?_⟩, hEe, htr, m8, m13, m17, m19, m33⟩
  · (repeat (simp (disch := omega) only [li_0, li_1, li_2, li_3, li_4, li_5, li_6, li_7, li_8, li_9, li_10, li_11, li_12, li_13, li_14, li_15, li_16, li_17, li_18, li_19, li_20, li_21, li_22, li_23, li_24, li_25, li_26, li_27, li_28, li_29, li_30, li_31, li_32, li_34, li_35, li_40, li_41, li_45, li_48, li_49, li_50, li_57, li_58, li_59, li_60, li_61, li_64, li_65, li_97, li_99, li_100, li_115, li_116, li_121, li_122, li_200, li_255, li_256, li_300, li_999, li_1000, li_12345, li_65535, li_1103515245, if_true, if_false, nI_add, pk_mul, pk_sub, s_div, s_rem, s_cl, p_le_t, p_le_f, p_lt_t, p_lt_f, p_eq_t, p_eq_f, bd1_s, bd2_s, bd3_s, nm_s, gd_t, gd_in, gd_nz, gd_bz0, gd_bz1, gd_cp, x_add (show on < 8 by omega) (show 8 ≤ 10 by omega), x1]))
  · (repeat (simp (disch := omega) only [li_0, li_1, li_2, li_3, li_4, li_5, li_6, li_7, li_8, li_9, li_10, li_11, li_12, li_13, li_14, li_15, li_16, li_17, li_18, li_19, li_20, li_21, li_22, li_23, li_24, li_25, li_26, li_27, li_28, li_29, li_30, li_31, li_32, li_34, li_35, li_40, li_41, li_45, li_48, li_49, li_50, li_57, li_58, li_59, li_60, li_61, li_64, li_65, li_97, li_99, li_100, li_115, li_116, li_121, li_122, li_200, li_255, li_256, li_300, li_999, li_1000, li_12345, li_65535, li_1103515245, if_true, if_false, nI_add, pk_mul, pk_sub, s_div, s_rem, s_cl, p_le_t, p_le_f, p_lt_t, p_lt_f, p_eq_t, p_eq_f, bd1_s, bd2_s, bd3_s, nm_s, gd_t, gd_in, gd_nz, gd_bz0, gd_bz1, gd_cp, hsA]))
  · show okL n nt (addL od on t' a l f u) k ∧ 1 ≤ (if k = on then p else op k) ∧ (if k = on then p else op k) ≤ 99 ∧ (∀ e, e < 5 → add5 (r 25) on (nI t') (nI a) (nI l) (nI f) (nI u) (5 * k + e) = _ ∧ sA (6 * k + e) = _) ∧ upd (r 26) on (nI p) k = nI (if k = on then p else op k) ∧ sA (6 * k + 5) = nI (if k = on then p else op k) ∧ sq' k = _ ∧ cl' k = _
    by_cases h : k < on
    · obtain ⟨q1, q2, q3, q4, q5, q6, q7, q8⟩ := o4 k h
      rw [if_neg (by omega)]
      refine ⟨hok k hk, q2, q3, fun e he => ⟨hparts k hk e he, ?_⟩, ?_, ?_, ?_, ?_⟩
      · rw [sAlo _ (by omega), addL_lo (by omega)]
        exact (q4 e he).2
      · rw [pk_un (by omega)]
        exact q5
      · rw [sAlo _ (by omega)]
        exact q6
      · rw [x3 k (by omega), hlo _ (by omega), hlo _ (by omega)]
        exact q7
      · rw [x5 k (by omega), cbits_lo hlo h]
        exact q8
    · have hk2 : k = on := by omega
      subst hk2
      rw [if_pos rfl]
      refine ⟨hok k hk, by omega, by omega, fun e he => ⟨hparts k hk e he, ?_⟩, pk_us, sA5, x2, x4⟩
      refine six (P := fun e => sA (6 * k + e) = nI (addL od k t' a l f u (5 * k + e))) ?_ ?_ ?_ ?_ ?_ he
      · rw [Nat.add_zero, Nat.add_zero, addL_0]; exact sA0
      · rw [addL_hi]; exact sA1
      · rw [addL_hi]; exact sA2
      · rw [addL_hi]; exact sA3
      · rw [addL_hi]; exact sA4
