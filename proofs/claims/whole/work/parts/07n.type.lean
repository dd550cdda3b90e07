/-! type -/
theorem wb_lt2 {a b : Nat} (h : a < b) : 2 ^ a < 2 ^ b := Nat.pow_lt_pow_right (by decide) h
theorem wb_sm : ∀ k, k < 64 → (((lN k).toBitVec).smod 64).toNat = k := by decide +kernel
theorem b8_255 : ∀ i, i < 64 → (255 : Int64).toBitVec.getLsbD i = decide (i < 8) := by decide +kernel
theorem ty_cu : ∀ k, k < 64 → ((UInt64.ofNat k).toBitVec % 64).toNat = k := by decide +kernel
theorem ty_sh (x : Int64) {k : Nat} (hk : k ≤ 56) : zlshr x (nI k) &&& 255 = zlushr x (nI k) &&& 255 := by
  unfold zlshr zlushr
  rw [wb_c k (by omega), wb_cu k (by omega)]
  apply wb_inj
  rw [Int64.toBitVec_and, Int64.toBitVec_and]
  apply BitVec.eq_of_getLsbD_eq
  intro i hi
  rw [BitVec.getLsbD_and, BitVec.getLsbD_and, b8_255 i hi]
  by_cases h8 : i < 8
  · rw [decide_eq_true h8, Bool.and_true, Bool.and_true, Int64.toBitVec_shiftRight]
    show (x.toBitVec.sshiftRight ((lN k).toBitVec.smod 64).toNat).getLsbD i = (x.toUInt64 >>> UInt64.ofNat k).toBitVec.getLsbD i
    rw [wb_sm k (by omega), UInt64.toBitVec_shiftRight]
    show _ = (x.toUInt64.toBitVec >>> ((UInt64.ofNat k).toBitVec % 64).toNat).getLsbD i
    rw [ty_cu k (by omega), BitVec.getLsbD_ushiftRight, BitVec.getLsbD_sshiftRight, if_pos (by omega), decide_eq_false (by omega)]
    rfl
  · rw [decide_eq_false h8, Bool.and_false, Bool.and_false]
theorem ty_mask {n : Nat} (hn : n < 2 ^ 64) : lN n &&& 255 = lN (n % 2 ^ 8) := by
  rw [← Nat.and_two_pow_sub_one_eq_mod]
  apply wb_inj
  show BitVec.ofNat 64 n &&& BitVec.ofNat 64 255 = BitVec.ofNat 64 (n &&& (2 ^ 8 - 1))
  apply BitVec.eq_of_toNat_eq
  rw [BitVec.toNat_and, BitVec.toNat_ofNat, BitVec.toNat_ofNat, BitVec.toNat_ofNat, Nat.mod_eq_of_lt hn, Nat.mod_eq_of_lt (by decide), Nat.mod_eq_of_lt (Nat.and_lt_two_pow _ (by decide))]
theorem tyB (x : Int64) {i : Nat} (hi : i < 8) : ∃ u, u < 256 ∧ (zlushr x (nI (8 * i))).toInt32 &&& nI 255 = nI u ∧ (zlshr x (nI (8 * i)) &&& 255).toInt32 = nI u := by
  obtain ⟨N, hN, rfl⟩ := wb_of x
  refine ⟨N / 2 ^ (8 * i) % 2 ^ 8, Nat.mod_lt _ (by decide), ?_, ?_⟩
  · unfold zlushr
    rw [wb_shr hN (by omega), lN_i]
    exact fa_mask _ 8
  · rw [ty_sh _ (by omega)]
    unfold zlushr
    rw [wb_shr hN (by omega), ty_mask (Nat.lt_of_le_of_lt (Nat.div_le_self _ _) hN), lN_i]
theorem nar_c {u : Nat} (hu : u < 65536) : vp_nar .char (zi2c (nI u)) = nI u := by
  unfold zi2c
  rw [pk_vc, pk_char, pk_tn (by omega), Nat.mod_eq_of_lt hu]
theorem x_append {k u : Nat} (hk : k < 300) (hu : u < 65536) (xb : Nat → Int32) : f_X7_append (nI k) xb (nI u) = some (nI (k + 1), upd xb k (nI u)) := by
  have e := nar_c hu
  unfold f_X7_append f_X7_hasRoomFor
  (repeat (simp (disch := omega) only [li_0, li_1, li_2, li_3, li_4, li_5, li_6, li_7, li_8, li_9, li_10, li_11, li_12, li_13, li_14, li_15, li_16, li_17, li_18, li_19, li_20, li_21, li_22, li_23, li_24, li_25, li_26, li_27, li_28, li_29, li_30, li_31, li_32, li_34, li_35, li_40, li_41, li_45, li_48, li_49, li_50, li_57, li_58, li_59, li_60, li_61, li_64, li_65, li_97, li_99, li_100, li_115, li_116, li_121, li_122, li_200, li_255, li_256, li_300, li_999, li_1000, li_12345, li_65535, li_1103515245, if_true, if_false, nI_add, pk_mul, pk_sub, s_div, s_rem, s_cl, p_le_t, p_le_f, p_lt_t, p_lt_f, p_eq_t, p_eq_f, bd1_s, bd2_s, bd3_s, nm_s, gd_t, gd_in, gd_nz, gd_bz0, gd_bz1, gd_cp, e]))
theorem lt_m1 : (nI 0 - nI 1 < nI 0) = True := eq_true (by decide)
theorem ty_loop (x : Int64) (th : Int32) : ∀ (r nn mm k : Nat) (b : Nat → Nat) (xb mt : Nat → Int32), k + r ≤ 300 → r ≤ 8 → r < nn → r < mm → (∀ j, j < k → b j < 256 ∧ xb j = nI (b j) ∧ mt j = nI (b j)) → ∃ (b' : Nat → Nat) (xb' mt' : Nat → Int32), f_X8_type_b32 x nn (nI r - nI 1) (nI k) xb = some (nI (k + r), nI (k + r), xb') ∧ f_X9_type_b37 x th mm (nI r - nI 1) (nI k) mt = some (nI (k + r), th, nI (k + r), mt') ∧ ∀ j, j < k + r → b' j < 256 ∧ xb' j = nI (b' j) ∧ mt' j = nI (b' j) := by
  intro r
  induction r with
  | zero =>
    intro nn mm k b xb mt hk hr hnn hmm hb
    obtain ⟨m, rfl⟩ : ∃ m, nn = m + 1 := ⟨nn - 1, by omega⟩
    obtain ⟨p, rfl⟩ : ∃ m, mm = m + 1 := ⟨mm - 1, by omega⟩
    refine ⟨b, xb, mt, ?_, ?_, hb⟩
    · rw [f_X8_type_b32]
      (repeat (simp (disch := omega) only [li_0, li_1, li_2, li_3, li_4, li_5, li_6, li_7, li_8, li_9, li_10, li_11, li_12, li_13, li_14, li_15, li_16, li_17, li_18, li_19, li_20, li_21, li_22, li_23, li_24, li_25, li_26, li_27, li_28, li_29, li_30, li_31, li_32, li_34, li_35, li_40, li_41, li_45, li_48, li_49, li_50, li_57, li_58, li_59, li_60, li_61, li_64, li_65, li_97, li_99, li_100, li_115, li_116, li_121, li_122, li_200, li_255, li_256, li_300, li_999, li_1000, li_12345, li_65535, li_1103515245, if_true, if_false, nI_add, pk_mul, pk_sub, s_div, s_rem, s_cl, p_le_t, p_le_f, p_lt_t, p_lt_f, p_eq_t, p_eq_f, bd1_s, bd2_s, bd3_s, nm_s, gd_t, gd_in, gd_nz, gd_bz0, gd_bz1, gd_cp, lt_m1, Nat.add_zero]))
    · rw [f_X9_type_b37]
      (repeat (simp (disch := omega) only [li_0, li_1, li_2, li_3, li_4, li_5, li_6, li_7, li_8, li_9, li_10, li_11, li_12, li_13, li_14, li_15, li_16, li_17, li_18, li_19, li_20, li_21, li_22, li_23, li_24, li_25, li_26, li_27, li_28, li_29, li_30, li_31, li_32, li_34, li_35, li_40, li_41, li_45, li_48, li_49, li_50, li_57, li_58, li_59, li_60, li_61, li_64, li_65, li_97, li_99, li_100, li_115, li_116, li_121, li_122, li_200, li_255, li_256, li_300, li_999, li_1000, li_12345, li_65535, li_1103515245, if_true, if_false, nI_add, pk_mul, pk_sub, s_div, s_rem, s_cl, p_le_t, p_le_f, p_lt_t, p_lt_f, p_eq_t, p_eq_f, bd1_s, bd2_s, bd3_s, nm_s, gd_t, gd_in, gd_nz, gd_bz0, gd_bz1, gd_cp, lt_m1, Nat.add_zero]))
  | succ r ih =>
    intro nn mm k b xb mt hk hr hnn hmm hb
    obtain ⟨m, rfl⟩ : ∃ m, nn = m + 1 := ⟨nn - 1, by omega⟩
    obtain ⟨p, rfl⟩ : ∃ m, mm = m + 1 := ⟨mm - 1, by omega⟩
    obtain ⟨u, hu, hu1, hu2⟩ := tyB x (show r < 8 by omega)
    have ea := x_append (show k < 300 by omega) (show u < 65536 by omega) xb
    obtain ⟨b', xb', mt', i1, i2, i3⟩ := ih m p (k + 1) (fun j => if j = k then u else b j) (upd xb k (nI u)) (upd mt k (nI u)) (by omega) (by omega) (by omega) (by omega) (fun j hj => by
      by_cases h : j = k
      · subst h
        rw [if_pos rfl, pk_us, pk_us]
        exact ⟨hu, rfl, rfl⟩
      · rw [if_neg h, pk_un h, pk_un h]
        exact hb j (by omega))
    rw [show k + 1 + r = k + (r + 1) by omega] at i1 i2 i3
    refine ⟨b', xb', mt', ?_, ?_, i3⟩
    · rw [pk_sub (show 1 ≤ r + 1 by omega), Nat.add_sub_cancel, f_X8_type_b32]
      simp (disch := omega) only [li_0, li_1, li_2, li_3, li_4, li_5, li_6, li_7, li_8, li_9, li_10, li_11, li_12, li_13, li_14, li_15, li_16, li_17, li_18, li_19, li_20, li_21, li_22, li_23, li_24, li_25, li_26, li_27, li_28, li_29, li_30, li_31, li_32, li_34, li_35, li_40, li_41, li_45, li_48, li_49, li_50, li_57, li_58, li_59, li_60, li_61, li_64, li_65, li_97, li_99, li_100, li_115, li_116, li_121, li_122, li_200, li_255, li_256, li_300, li_999, li_1000, li_12345, li_65535, li_1103515245, pk_mul, p_lt_f, if_false, hu1, ea, bd2_s, s_m1, i1]
    · rw [pk_sub (show 1 ≤ r + 1 by omega), Nat.add_sub_cancel, f_X9_type_b37]
      simp (disch := omega) only [li_0, li_1, li_2, li_3, li_4, li_5, li_6, li_7, li_8, li_9, li_10, li_11, li_12, li_13, li_14, li_15, li_16, li_17, li_18, li_19, li_20, li_21, li_22, li_23, li_24, li_25, li_26, li_27, li_28, li_29, li_30, li_31, li_32, li_34, li_35, li_40, li_41, li_45, li_48, li_49, li_50, li_57, li_58, li_59, li_60, li_61, li_64, li_65, li_97, li_99, li_100, li_115, li_116, li_121, li_122, li_200, li_255, li_256, li_300, li_999, li_1000, li_12345, li_65535, li_1103515245, pk_mul, p_lt_f, if_false, hu2, gd_in, nm_s, s_cl, nI_add, s_m1, i2]
theorem ty_out {α : Type} {x : Int32} {p q : α} (h : outN x 9) : (if x < nI 1 then p else if x ≤ nI 8 then q else p) = p := by
  have e0 : (nI 0).toInt = 0 := rfl
  have e1 : (nI 1).toInt = 1 := rfl
  have e8 : (nI 8).toInt = 8 := rfl
  have e9 : (nI 9).toInt = 9 := rfl
  unfold outN at h
  rw [Int32.lt_iff_toInt_lt, Int32.le_iff_toInt_le] at h
  by_cases a : x < nI 1
  · rw [if_pos a]
  · rw [if_neg a, if_neg]
    intro c
    rw [Int32.lt_iff_toInt_lt] at a
    rw [Int32.le_iff_toInt_le] at c
    omega
theorem pm_type (v : Nat → Int32) (r : Nat → Nat → Int32) (t : Int64) (vm : Nat → Int32) (rm : Nat → Nat → Int32) (tm : Int64) (hI : Inv v r t vm rm tm) (g1 : Int64) (g3 : Int32) : ∃ (R0 : Int32) (w0 : Int32) (w1 : Nat → Int32) (z0 : Int32) (z1 : Int32) (z2 : Nat → Int32), f_X8_type (v 0) (r 0) g1 g3 = some (R0, w0, w1) ∧ f_X9_type (vm 0) (vm 1) (rm 0) g1 g3 = some (R0, z0, z1, z2) ∧ Inv (upd v 0 w0) (updA r 0 w1) t (upd (upd vm 0 z0) 1 z1) (updA rm 0 z2) tm := by
  obtain ⟨n, ns, nt, sa, sp, sb, hS, ⟨k, b, hk, x1, x2, hb⟩, hN, hI0, hI1, hO, hEe, htr, m8, m13, m17, m19, m33⟩ := id hI
  have hsame : Inv (upd v 0 (nI k)) (updA r 0 (r 0)) t (upd (upd vm 0 (nI 0)) 1 (nI k)) (updA rm 0 (rm 0)) tm := ⟨n, ns, nt, sa, sp, sb, hS, ⟨k, b, hk, rfl, rfl, hb⟩, hN, hI0, hI1, hO, hEe, htr, m8, m13, m17, m19, m33⟩
  unfold f_X8_type f_X9_type
  rw [x1, x2, in_eq]
  simp only [li_0, li_1, li_2, li_3, li_4, li_5, li_6, li_7, li_8, li_9, li_10, li_11, li_12, li_13, li_14, li_15, li_16, li_17, li_18, li_19, li_20, li_21, li_22, li_23, li_24, li_25, li_26, li_27, li_28, li_29, li_30, li_31, li_32, li_34, li_35, li_40, li_41, li_45, li_48, li_49, li_50, li_57, li_58, li_59, li_60, li_61, li_64, li_65, li_97, li_99, li_100, li_115, li_116, li_121, li_122, li_200, li_255, li_256, li_300, li_999, li_1000, li_12345, li_65535, li_1103515245]
  rcases num_cases g3 9 (by decide) with ho | ⟨j, hj, rfl⟩
  · refine ⟨-1, nI k, r 0, nI 0, nI k, rm 0, ?_, ?_, hsame⟩
    · rw [ty_out ho]
      (repeat (simp (disch := omega) only [li_0, li_1, li_2, li_3, li_4, li_5, li_6, li_7, li_8, li_9, li_10, li_11, li_12, li_13, li_14, li_15, li_16, li_17, li_18, li_19, li_20, li_21, li_22, li_23, li_24, li_25, li_26, li_27, li_28, li_29, li_30, li_31, li_32, li_34, li_35, li_40, li_41, li_45, li_48, li_49, li_50, li_57, li_58, li_59, li_60, li_61, li_64, li_65, li_97, li_99, li_100, li_115, li_116, li_121, li_122, li_200, li_255, li_256, li_300, li_999, li_1000, li_12345, li_65535, li_1103515245, if_true, if_false, nI_add, pk_mul, pk_sub, s_div, s_rem, s_cl, p_le_t, p_le_f, p_lt_t, p_lt_f, p_eq_t, p_eq_f, bd1_s, bd2_s, bd3_s, nm_s, gd_t, gd_in, gd_nz, gd_bz0, gd_bz1, gd_cp]))
    · rw [wi_out (by decide) (by decide) ho]
      (repeat (simp (disch := omega) only [li_0, li_1, li_2, li_3, li_4, li_5, li_6, li_7, li_8, li_9, li_10, li_11, li_12, li_13, li_14, li_15, li_16, li_17, li_18, li_19, li_20, li_21, li_22, li_23, li_24, li_25, li_26, li_27, li_28, li_29, li_30, li_31, li_32, li_34, li_35, li_40, li_41, li_45, li_48, li_49, li_50, li_57, li_58, li_59, li_60, li_61, li_64, li_65, li_97, li_99, li_100, li_115, li_116, li_121, li_122, li_200, li_255, li_256, li_300, li_999, li_1000, li_12345, li_65535, li_1103515245, if_true, if_false, nI_add, pk_mul, pk_sub, s_div, s_rem, s_cl, p_le_t, p_le_f, p_lt_t, p_lt_f, p_eq_t, p_eq_f, bd1_s, bd2_s, bd3_s, nm_s, gd_t, gd_in, gd_nz, gd_bz0, gd_bz1, gd_cp]))
  · by_cases h0 : j = 0
    · subst h0
      refine ⟨-1, nI k, r 0, nI 0, nI k, rm 0, by (repeat (simp (disch := omega) only [li_0, li_1, li_2, li_3, li_4, li_5, li_6, li_7, li_8, li_9, li_10, li_11, li_12, li_13, li_14, li_15, li_16, li_17, li_18, li_19, li_20, li_21, li_22, li_23, li_24, li_25, li_26, li_27, li_28, li_29, li_30, li_31, li_32, li_34, li_35, li_40, li_41, li_45, li_48, li_49, li_50, li_57, li_58, li_59, li_60, li_61, li_64, li_65, li_97, li_99, li_100, li_115, li_116, li_121, li_122, li_200, li_255, li_256, li_300, li_999, li_1000, li_12345, li_65535, li_1103515245, if_true, if_false, nI_add, pk_mul, pk_sub, s_div, s_rem, s_cl, p_le_t, p_le_f, p_lt_t, p_lt_f, p_eq_t, p_eq_f, bd1_s, bd2_s, bd3_s, nm_s, gd_t, gd_in, gd_nz, gd_bz0, gd_bz1, gd_cp])), ?_, hsame⟩
      rw [wi_no (by omega) (by omega) (by decide)]
      (repeat (simp (disch := omega) only [li_0, li_1, li_2, li_3, li_4, li_5, li_6, li_7, li_8, li_9, li_10, li_11, li_12, li_13, li_14, li_15, li_16, li_17, li_18, li_19, li_20, li_21, li_22, li_23, li_24, li_25, li_26, li_27, li_28, li_29, li_30, li_31, li_32, li_34, li_35, li_40, li_41, li_45, li_48, li_49, li_50, li_57, li_58, li_59, li_60, li_61, li_64, li_65, li_97, li_99, li_100, li_115, li_116, li_121, li_122, li_200, li_255, li_256, li_300, li_999, li_1000, li_12345, li_65535, li_1103515245, if_true, if_false, nI_add, pk_mul, pk_sub, s_div, s_rem, s_cl, p_le_t, p_le_f, p_lt_t, p_lt_f, p_eq_t, p_eq_f, bd1_s, bd2_s, bd3_s, nm_s, gd_t, gd_in, gd_nz, gd_bz0, gd_bz1, gd_cp]))
    · by_cases hr : k + j ≤ 300
      · obtain ⟨b', xb', mt', e1, e2, e3⟩ := ty_loop g1 (nI 0) j zF zF k b (r 0) (rm 0) hr (by omega) (by unfold zF; omega) (by unfold zF; omega) hb
        refine ⟨nI (k + j), nI (k + j), xb', nI 0, nI (k + j), mt', ?_, ?_, ?_⟩
        · unfold f_X7_hasRoomFor
          simp (disch := omega) only [li_0, li_1, li_2, li_3, li_4, li_5, li_6, li_7, li_8, li_9, li_10, li_11, li_12, li_13, li_14, li_15, li_16, li_17, li_18, li_19, li_20, li_21, li_22, li_23, li_24, li_25, li_26, li_27, li_28, li_29, li_30, li_31, li_32, li_34, li_35, li_40, li_41, li_45, li_48, li_49, li_50, li_57, li_58, li_59, li_60, li_61, li_64, li_65, li_97, li_99, li_100, li_115, li_116, li_121, li_122, li_200, li_255, li_256, li_300, li_999, li_1000, li_12345, li_65535, li_1103515245, p_lt_f, p_le_t, if_true, if_false, pk_sub (show k ≤ 300 by omega), bd1_s, p_eq_f, e1]
        · rw [wi_in (by omega) (by omega) (by decide)]
          simp (disch := omega) only [bd1_s, p_eq_f, if_false, nI_add, p_le_t, if_true, e2]
        · exact ⟨n, ns, nt, sa, sp, sb, hS, ⟨k + j, b', hr, rfl, rfl, e3⟩, hN, hI0, hI1, hO, hEe, htr, m8, m13, m17, m19, m33⟩
      · refine ⟨-3, nI k, r 0, nI 0, nI k, rm 0, ?_, ?_, hsame⟩
        · unfold f_X7_hasRoomFor
          (repeat (simp (disch := omega) only [li_0, li_1, li_2, li_3, li_4, li_5, li_6, li_7, li_8, li_9, li_10, li_11, li_12, li_13, li_14, li_15, li_16, li_17, li_18, li_19, li_20, li_21, li_22, li_23, li_24, li_25, li_26, li_27, li_28, li_29, li_30, li_31, li_32, li_34, li_35, li_40, li_41, li_45, li_48, li_49, li_50, li_57, li_58, li_59, li_60, li_61, li_64, li_65, li_97, li_99, li_100, li_115, li_116, li_121, li_122, li_200, li_255, li_256, li_300, li_999, li_1000, li_12345, li_65535, li_1103515245, if_true, if_false, nI_add, pk_mul, pk_sub, s_div, s_rem, s_cl, p_le_t, p_le_f, p_lt_t, p_lt_f, p_eq_t, p_eq_f, bd1_s, bd2_s, bd3_s, nm_s, gd_t, gd_in, gd_nz, gd_bz0, gd_bz1, gd_cp]))
        · rw [wi_in (by omega) (by omega) (by decide)]
          (repeat (simp (disch := omega) only [li_0, li_1, li_2, li_3, li_4, li_5, li_6, li_7, li_8, li_9, li_10, li_11, li_12, li_13, li_14, li_15, li_16, li_17, li_18, li_19, li_20, li_21, li_22, li_23, li_24, li_25, li_26, li_27, li_28, li_29, li_30, li_31, li_32, li_34, li_35, li_40, li_41, li_45, li_48, li_49, li_50, li_57, li_58, li_59, li_60, li_61, li_64, li_65, li_97, li_99, li_100, li_115, li_116, li_121, li_122, li_200, li_255, li_256, li_300, li_999, li_1000, li_12345, li_65535, li_1103515245, if_true, if_false, nI_add, pk_mul, pk_sub, s_div, s_rem, s_cl, p_le_t, p_le_f, p_lt_t, p_lt_f, p_eq_t, p_eq_f, bd1_s, bd2_s, bd3_s, nm_s, gd_t, gd_in, gd_nz, gd_bz0, gd_bz1, gd_cp]))
