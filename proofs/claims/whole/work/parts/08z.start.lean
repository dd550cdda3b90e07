theorem hd_X8_init : yX8_init.cls = RX8 ∧ yX8_init.cls ≠ "java/lang/invoke/MethodHandle" ∧ yX8_init.cls ≠ "java/lang/invoke/VarHandle" ∧ (parseMethodDescriptor yX8_init.desc).map (fun d => d.parameters.length) = some 0 := by decide +kernel
theorem hd_X9_init : yX9_init.cls = RX9 ∧ yX9_init.cls ≠ "java/lang/invoke/MethodHandle" ∧ yX9_init.cls ≠ "java/lang/invoke/VarHandle" ∧ (parseMethodDescriptor yX9_init.desc).map (fun d => d.parameters.length) = some 0 := by decide +kernel
set_option maxHeartbeats 4000000 in
set_option maxRecDepth 100000 in
theorem law_step {p : Program} {l : Launch} {e : Env} {s : State} {m : MethodId} {below : List Frame} {meth : Method} {c : Code} {G : zG} {KV : zKV} {b L : Nat} {xs : Nat → Int32} (hL : L ≤ 3584) (C0 : lw_At p s m meth c b L xs) (hE : zE G s) (hZ : zS KV (zA s) s s.heap) (i : Nat) (hi : 7 * i ≤ 3591) (ih : 7 * i + 7 ≤ L → lAt p l e s m below meth c G b (nI (7 * (i + 1))) 18) : lAt p l e s m below meth c G b (nI (7 * i)) 18 := by
  intro a am v r t vm rm tm hI H locs hP hD hS ls hl
  obtain ⟨hx, hb, hr, hml, hown, hts0, hX, hbl, hlocks, hgv⟩ := id C0
  have hbA : ¬ zA s b := Nat.not_le.mpr hbl
  have hA : ∀ q : Nat, s.heap.size ≤ q → zA s q := fun _ h => h
  refine lv_iload_n hx hb dL_law_18 rfl (lv_at hl 3 rfl) ?_
  refine lv_aload_n hx hb dL_law_19 rfl (lv_at hl 0 rfl) ?_
  refine va_slen hx hb hX hbl hbA hS dL_law_20 ?_
  refine lv_bipush (v := 7) hx hb dL_law_21 (by decide) ?_
  refine lv_isub hx hb dL_law_23 ?_
  refine lv_icmp_gt (tgt := 1013) hx hb dL_law_24 (by decide) (fun hc => ?_) (fun hc => ?_)
  · refine lv_iconst (v := 1) hx hb dL_law_1013 (by decide) ?_
    refine va_forget (fun q hq => hS.2.2 q hq) ?_
    refine W.widen (k := 600000) (n := 7302250) (by decide) (by decide) ?_
    exact lw_ret hx hb hr hlocks dL_law_1014
  · have hle : 7 * i + 7 ≤ L := by
      refine Classical.byContradiction (fun hn => hc ?_)
      have e1 : (nI L - nI 7).toInt = (L : Int) - 7 := pk_sub_toInt (by omega) (by decide)
      have e2 : (nI (7 * i)).toInt = ((7 * i : Nat) : Int) := nI_toInt (by omega)
      show nI L - nI 7 < nI (7 * i)
      rw [Int32.lt_iff_toInt_lt, e1, e2]
      omega
    have hin : ∀ j : Nat, j < 7 → vp_in (nI (7 * i) + nI j) L := fun j hj => by rw [nI_add]; exact vp_in_nI (by omega) (by omega)
    have cont : lAt p l e s m below meth c G b (nI (7 * i)) 1007 := by
      intro a am v r t vm rm tm hI H locs hP hD hS ls hl
      refine lv_iinc (v := nI (7 * (i + 1))) (lv' := [(3, .int (nI (7 * (i + 1)))), (0, .ref b), (1, .ref (a 0)), (2, .ref (am 0))]) hx hb dL_law_1007 hl (k := 3) rfl (by show nI (7 * i) + nI 7 = _; rw [nI_add]; rfl) (by decide) rfl (fun ls hl => ?_)
      refine lv_goto (tgt := 18) hx hb dL_law_1010 (by decide) ?_
      exact ih hle a am v r t vm rm tm hI _ _ hP hD hS ls (lv_sub hl [1, 2, 3, 0] rfl)
    refine lv_aload_n hx hb dL_law_27 rfl (lv_at hl 0 rfl) ?_
    refine lv_iload_n hx hb dL_law_28 rfl (lv_at hl 3 rfl) ?_
    obtain ⟨q0, hq0⟩ : ∃ y : Int32, xs (nI (7 * i)).toNatClampNeg = y := ⟨_, rfl⟩
    refine z_sld (v := q0) hx hb hX hbl hbA hS (vp_in_nI (by omega) (by omega)) hq0 dL_law_29 ?_
    refine lv_bipush (v := 31) hx hb dL_law_30 (by decide) ?_
    refine lv_iand hx hb dL_law_32 ?_
    obtain ⟨j, hj, ej⟩ := pk_andE q0 (m := 31) 5 (by decide)
    rw [ej]
    by_cases h0 : j = 0
    · subst h0
      refine lv_tableIn (off := 127) (tgt := 160) hx hb dL_law_33 (by decide) (by decide) (by decide) (by decide) ?_
      exact lc_type C0 hE hZ hin cont a am v r t vm rm tm hI _ _ hP hD hS ls hl
    by_cases h1 : j = 1
    · subst h1
      refine lv_tableIn (off := 190) (tgt := 223) hx hb dL_law_33 (by decide) (by decide) (by decide) (by decide) ?_
      exact lc_clear C0 hE hZ hin cont a am v r t vm rm tm hI _ _ hP hD hS ls hl
    by_cases h2 : j = 2
    · subst h2
      refine lv_tableIn (off := 203) (tgt := 236) hx hb dL_law_33 (by decide) (by decide) (by decide) (by decide) ?_
      exact lc_sky C0 hE hZ hin cont a am v r t vm rm tm hI _ _ hP hD hS ls hl
    by_cases h3 : j = 3
    · subst h3
      refine lv_tableIn (off := 216) (tgt := 249) hx hb dL_law_33 (by decide) (by decide) (by decide) (by decide) ?_
      exact lc_star C0 hE hZ hin cont a am v r t vm rm tm hI _ _ hP hD hS ls hl
    by_cases h4 : j = 4
    · subst h4
      refine lv_tableIn (off := 249) (tgt := 282) hx hb dL_law_33 (by decide) (by decide) (by decide) (by decide) ?_
      exact lc_lease C0 hE hZ hin cont a am v r t vm rm tm hI _ _ hP hD hS ls hl
    by_cases h5 : j = 5
    · subst h5
      refine lv_tableIn (off := 282) (tgt := 315) hx hb dL_law_33 (by decide) (by decide) (by decide) (by decide) ?_
      exact lc_whose C0 hE hZ hin cont a am v r t vm rm tm hI _ _ hP hD hS ls hl
    by_cases h6 : j = 6
    · subst h6
      refine lv_tableIn (off := 315) (tgt := 348) hx hb dL_law_33 (by decide) (by decide) (by decide) (by decide) ?_
      exact lc_claims C0 hE hZ hin cont a am v r t vm rm tm hI _ _ hP hD hS ls hl
    by_cases h7 : j = 7
    · subst h7
      refine lv_tableIn (off := 348) (tgt := 381) hx hb dL_law_33 (by decide) (by decide) (by decide) (by decide) ?_
      exact lc_cycle C0 hE hZ hin cont a am v r t vm rm tm hI _ _ hP hD hS ls hl
    by_cases h8 : j = 8
    · subst h8
      refine lv_tableIn (off := 361) (tgt := 394) hx hb dL_law_33 (by decide) (by decide) (by decide) (by decide) ?_
      exact lc_night C0 hE hZ hin cont a am v r t vm rm tm hI _ _ hP hD hS ls hl
    by_cases h9 : j = 9
    · subst h9
      refine lv_tableIn (off := 374) (tgt := 407) hx hb dL_law_33 (by decide) (by decide) (by decide) (by decide) ?_
      exact lc_purse C0 hE hZ hin cont a am v r t vm rm tm hI _ _ hP hD hS ls hl
    by_cases h10 : j = 10
    · subst h10
      refine lv_tableIn (off := 397) (tgt := 430) hx hb dL_law_33 (by decide) (by decide) (by decide) (by decide) ?_
      exact lc_begins C0 hE hZ hin cont a am v r t vm rm tm hI _ _ hP hD hS ls hl
    by_cases h11 : j = 11
    · subst h11
      refine lv_tableIn (off := 460) (tgt := 493) hx hb dL_law_33 (by decide) (by decide) (by decide) (by decide) ?_
      exact lc_ends C0 hE hZ hin cont a am v r t vm rm tm hI _ _ hP hD hS ls hl
    by_cases h12 : j = 12
    · subst h12
      refine lv_tableIn (off := 483) (tgt := 516) hx hb dL_law_33 (by decide) (by decide) (by decide) (by decide) ?_
      exact lc_undo C0 hE hZ hin cont a am v r t vm rm tm hI _ _ hP hD hS ls hl
    by_cases h13 : j = 13
    · subst h13
      refine lv_tableIn (off := 496) (tgt := 529) hx hb dL_law_33 (by decide) (by decide) (by decide) (by decide) ?_
      exact lc_lot C0 hE hZ hin cont a am v r t vm rm tm hI _ _ hP hD hS ls hl
    by_cases h14 : j = 14
    · subst h14
      refine lv_tableIn (off := 519) (tgt := 552) hx hb dL_law_33 (by decide) (by decide) (by decide) (by decide) ?_
      exact lc_dark C0 hE hZ hin cont a am v r t vm rm tm hI _ _ hP hD hS ls hl
    by_cases h15 : j = 15
    · subst h15
      refine lv_tableIn (off := 562) (tgt := 595) hx hb dL_law_33 (by decide) (by decide) (by decide) (by decide) ?_
      exact lc_meets C0 hE hZ hin cont a am v r t vm rm tm hI _ _ hP hD hS ls hl
    by_cases h16 : j = 16
    · subst h16
      refine lv_tableIn (off := 605) (tgt := 638) hx hb dL_law_33 (by decide) (by decide) (by decide) (by decide) ?_
      exact lc_offer C0 hE hZ hin cont a am v r t vm rm tm hI _ _ hP hD hS ls hl
    by_cases h17 : j = 17
    · subst h17
      refine lv_tableIn (off := 680) (tgt := 713) hx hb dL_law_33 (by decide) (by decide) (by decide) (by decide) ?_
      exact lc_refuse C0 hE hZ hin cont a am v r t vm rm tm hI _ _ hP hD hS ls hl
    by_cases h18 : j = 18
    · subst h18
      refine lv_tableIn (off := 693) (tgt := 726) hx hb dL_law_33 (by decide) (by decide) (by decide) (by decide) ?_
      exact lc_letting C0 hE hZ hin cont a am v r t vm rm tm hI _ _ hP hD hS ls hl
    by_cases h19 : j = 19
    · subst h19
      refine lv_tableIn (off := 736) (tgt := 769) hx hb dL_law_33 (by decide) (by decide) (by decide) (by decide) ?_
      exact lc_saw C0 hE hZ hin cont a am v r t vm rm tm hI _ _ hP hD hS ls hl
    by_cases h20 : j = 20
    · subst h20
      refine lv_tableIn (off := 769) (tgt := 802) hx hb dL_law_33 (by decide) (by decide) (by decide) (by decide) ?_
      exact lc_forget C0 hE hZ hin cont a am v r t vm rm tm hI _ _ hP hD hS ls hl
    by_cases h21 : j = 21
    · subst h21
      refine lv_tableIn (off := 782) (tgt := 815) hx hb dL_law_33 (by decide) (by decide) (by decide) (by decide) ?_
      exact lc_dates C0 hE hZ hin cont a am v r t vm rm tm hI _ _ hP hD hS ls hl
    by_cases h22 : j = 22
    · subst h22
      refine lv_tableIn (off := 805) (tgt := 838) hx hb dL_law_33 (by decide) (by decide) (by decide) (by decide) ?_
      exact lc_odds C0 hE hZ hin cont a am v r t vm rm tm hI _ _ hP hD hS ls hl
    by_cases h23 : j = 23
    · subst h23
      refine lv_tableIn (off := 858) (tgt := 891) hx hb dL_law_33 (by decide) (by decide) (by decide) (by decide) ?_
      exact lc_rate C0 hE hZ hin cont a am v r t vm rm tm hI _ _ hP hD hS ls hl
    by_cases h24 : j = 24
    · subst h24
      refine lv_tableIn (off := 891) (tgt := 924) hx hb dL_law_33 (by decide) (by decide) (by decide) (by decide) ?_
      exact lc_keep C0 hE hZ hin cont a am v r t vm rm tm hI _ _ hP hD hS ls hl
    by_cases h25 : j = 25
    · subst h25
      refine lv_tableIn (off := 914) (tgt := 947) hx hb dL_law_33 (by decide) (by decide) (by decide) (by decide) ?_
      exact lc_back C0 hE hZ hin cont a am v r t vm rm tm hI _ _ hP hD hS ls hl
    by_cases h26 : j = 26
    · subst h26
      refine lv_tableIn (off := 937) (tgt := 970) hx hb dL_law_33 (by decide) (by decide) (by decide) (by decide) ?_
      exact lc_count C0 hE hZ hin cont a am v r t vm rm tm hI _ _ hP hD hS ls hl
    by_cases h27 : j = 27
    · subst h27
      refine lv_tableIn (off := 960) (tgt := 993) hx hb dL_law_33 (by decide) (by decide) (by decide) (by decide) ?_
      exact lc_trace C0 hE hZ hin cont a am v r t vm rm tm hI _ _ hP hD hS ls hl
    refine lv_tableOut (tgt := 1007) hx hb dL_law_33 (Or.inr (by rw [nI_toInt (by omega)]; omega)) (by decide) ?_
    exact cont a am v r t vm rm tm hI _ _ hP hD hS ls hl
theorem law_loop {p : Program} {l : Launch} {e : Env} {s : State} {m : MethodId} {below : List Frame} {meth : Method} {c : Code} {G : zG} {KV : zKV} {b L : Nat} {xs : Nat → Int32} (hL : L ≤ 3584) (C0 : lw_At p s m meth c b L xs) (hE : zE G s) (hZ : zS KV (zA s) s s.heap) : ∀ (n i : Nat), 7 * i ≤ 3591 → L < 7 * (i + n) → lAt p l e s m below meth c G b (nI (7 * i)) 18 := by
  intro n
  induction n with
  | zero => intro i hi h; exact law_step hL C0 hE hZ i hi (fun h2 => by omega)
  | succ n ih => intro i hi h; exact law_step hL C0 hE hZ i hi (fun h2 => ih (i + 1) (by omega) (by omega))
theorem law_strs {s : State} {b : Nat} (hts : ∀ w ∈ lw_tbl, w.before #[Value.ref b] s = true) (hgv : (Jvm.Cond.and given_1 narrow_1).before #[Value.ref b] s = true) : ∃ KV : zKV, zS KV (zA s) s s.heap := by
  have hs := flat_of_before _ hgv
  have hA : ∀ a : Nat, a < s.heap.size → ¬ zA s a := fun _ h => Nat.not_le.mpr h
  have c4 : ∀ {P : Nat → Prop}, P 0 → P 1 → P 2 → P 3 → ∀ i : Nat, i < 4 → P i := by
    intro P h0 h1 h2 h3 i hi
    rcases (show i = 0 ∨ i = 1 ∨ i = 2 ∨ i = 3 by omega) with rfl | rfl | rfl | rfl
    · exact h0
    · exact h1
    · exact h2
    · exact h3
  obtain ⟨K, V, hS, hev⟩ := vk_Sof (args := #[Value.ref b]) (s := s) (N := 4) (tm := fun i => .string "SkyLeases$Text" ([54, 60, 62, 64].getD i 0)) (len := zL) (byt := zBy) (A := zA s)
    (c4 (by decide) (by decide) (by decide) (by decide))
    (c4 (hs _ (by decide +kernel)) (hs _ (by decide +kernel)) (hs _ (by decide +kernel)) (hs _ (by decide +kernel)))
    (c4 (hs _ (by decide +kernel)) (hs _ (by decide +kernel)) (hs _ (by decide +kernel)) (hs _ (by decide +kernel)))
    (c4 (hs _ (by decide +kernel)) (hs _ (by decide +kernel)) (hs _ (by decide +kernel)) (hs _ (by decide +kernel)))
    (c4 (hs _ (by decide +kernel)) (hs _ (by decide +kernel)) (hs _ (by decide +kernel)) (hs _ (by decide +kernel)))
    (c4 (fun j hj => by rcases (show j = 0 ∨ j = 1 ∨ j = 2 from by have : j < 3 := hj; omega) with rfl | rfl | rfl <;> exact hs _ (by decide +kernel))
      (fun j hj => by rcases (show j = 0 ∨ j = 1 ∨ j = 2 ∨ j = 3 from by have : j < 4 := hj; omega) with rfl | rfl | rfl | rfl <;> exact hs _ (by decide +kernel))
      (fun j hj => by rcases (show j = 0 ∨ j = 1 ∨ j = 2 ∨ j = 3 ∨ j = 4 ∨ j = 5 from by have : j < 6 := hj; omega) with rfl | rfl | rfl | rfl | rfl | rfl <;> exact hs _ (by decide +kernel))
      (fun j hj => by rcases (show j = 0 ∨ j = 1 ∨ j = 2 ∨ j = 3 ∨ j = 4 from by have : j < 5 := hj; omega) with rfl | rfl | rfl | rfl | rfl <;> exact hs _ (by decide +kernel)))
    (fun i j hi hj hne => by
      rcases (show i = 0 ∨ i = 1 ∨ i = 2 ∨ i = 3 by omega) with rfl | rfl | rfl | rfl <;> rcases (show j = 0 ∨ j = 1 ∨ j = 2 ∨ j = 3 by omega) with rfl | rfl | rfl | rfl <;> first
        | exact absurd rfl hne
        | exact Or.inl (hs _ (by decide +kernel))
        | exact Or.inr (hs _ (by decide +kernel)))
    hA
  refine ⟨(K, V), hS, va_Zof (hts (.laysStatic "java/lang/String" "COMPACT_STRINGS" "Z") (by decide +kernel)) (hts (.initialized "java/lang/String") (by decide +kernel)) (va_eqi (hs _ (by decide +kernel))) hA, va_Zqof (hts (.laysStatic "jdk/internal/util/Preconditions" "SIOOBE_FORMATTER" "Ljava/util/function/BiFunction;") (by decide +kernel)) (hts (.initialized "jdk/internal/util/Preconditions") (by decide +kernel)) (hs _ (by decide +kernel)) hA,
    vk_R.of (A := #[Value.ref b]) (hts (.stringRef "SkyLeases$Text" 54 "sky") (by decide +kernel)) (hev 0 (by decide)), vk_R.of (A := #[Value.ref b]) (hts (.stringRef "SkyLeases$Text" 60 "star") (by decide +kernel)) (hev 1 (by decide)), vk_R.of (A := #[Value.ref b]) (hts (.stringRef "SkyLeases$Text" 62 "tenant") (by decide +kernel)) (hev 2 (by decide)), vk_R.of (A := #[Value.ref b]) (hts (.stringRef "SkyLeases$Text" 64 "lease") (by decide +kernel)) (hev 3 (by decide))⟩
theorem law_arr {s : State} {args : Array Value} {ty : FieldType} (h : (Cond.arrayClass ty).before args s = true) (hp : ∀ C, ty ≠ .object C) : ∃ cA : ClassId, ArrOfT s cA ty ∧ va_RA s cA ty := by
  obtain ⟨cA, kA, comp, h1, h2, h3⟩ := Cond.arrayClass_spec h
  refine ⟨cA, fun n z => ⟨fun k h => (by cases h), kA, h2, comp, h3⟩, ?_⟩
  cases ty with
  | object C => exact absurd rfl (hp C)
  | _ => exact h1
theorem law_env {s : State} {b : Nat} (hts : ∀ w ∈ lw_tbl, w.before #[Value.ref b] s = true) : ∃ G : zG, zE G s := by
  obtain ⟨cc0, iS0, hKn0⟩ := u_known (C := RX0) (T := TX0) (N := 5) (n := 5) hts inX0 (hts (.instantiable RX0 5) (by decide +kernel))
  obtain ⟨cc1, iS1, hKn1⟩ := u_known (C := RX1) (T := TX1) (N := 6) (n := 6) hts inX1 (hts (.instantiable RX1 6) (by decide +kernel))
  obtain ⟨cc2, iS2, hKn2⟩ := u_known (C := RX2) (T := TX2) (N := 2) (n := 2) hts inX2 (hts (.instantiable RX2 2) (by decide +kernel))
  obtain ⟨cc3, iS3, hKn3⟩ := u_known (C := RX3) (T := TX3) (N := 1) (n := 1) hts inX3 (hts (.instantiable RX3 1) (by decide +kernel))
  obtain ⟨cc4, iS4, hKn4⟩ := u_known (C := RX4) (T := TX4) (N := 3) (n := 3) hts inX4 (hts (.instantiable RX4 3) (by decide +kernel))
  obtain ⟨cc5, iS5, hKn5⟩ := u_known (C := RX5) (T := TX5) (N := 8) (n := 8) hts inX5 (hts (.instantiable RX5 8) (by decide +kernel))
  obtain ⟨cc6, iS6, hKn6⟩ := u_known (C := RX6) (T := TX6) (N := 3) (n := 3) hts inX6 (hts (.instantiable RX6 3) (by decide +kernel))
  obtain ⟨cc7, iS7, hKn7⟩ := u_known (C := RX7) (T := TX7) (N := 6) (n := 6) hts inX7 (hts (.instantiable RX7 6) (by decide +kernel))
  obtain ⟨cc8, iS8, hKn8⟩ := u_known (C := RX8) (T := TX8) (N := 12) (n := 12) hts inX8 (hts (.instantiable RX8 12) (by decide +kernel))
  obtain ⟨cc9, iS9, hKn9⟩ := u_known (C := RX9) (T := TX9) (N := 26) (n := 26) hts inX9 (hts (.instantiable RX9 26) (by decide +kernel))
  obtain ⟨dC, dI, hKc⟩ : ∃ (dC : Nat → ClassId) (dI : Nat → Nat → Nat), ∀ (k : Nat) (q : vw_C), vwCl[k]? = some q → u_Kn s q.1 q.2.1 q.2.2 (dC k) (dI k) := by
    refine ⟨fun k => if k = 0 then cc0 else if k = 1 then cc1 else if k = 2 then cc2 else if k = 3 then cc3 else if k = 4 then cc4 else if k = 5 then cc5 else if k = 6 then cc6 else if k = 7 then cc7 else if k = 8 then cc8 else cc9, fun k => if k = 0 then iS0 else if k = 1 then iS1 else if k = 2 then iS2 else if k = 3 then iS3 else if k = 4 then iS4 else if k = 5 then iS5 else if k = 6 then iS6 else if k = 7 then iS7 else if k = 8 then iS8 else iS9, ?_⟩
    intro k q hq
    match k, hq with
    | 0, hq => cases hq; exact hKn0
    | 1, hq => cases hq; exact hKn1
    | 2, hq => cases hq; exact hKn2
    | 3, hq => cases hq; exact hKn3
    | 4, hq => cases hq; exact hKn4
    | 5, hq => cases hq; exact hKn5
    | 6, hq => cases hq; exact hKn6
    | 7, hq => cases hq; exact hKn7
    | 8, hq => cases hq; exact hKn8
    | 9, hq => cases hq; exact hKn9
    | k + 10, hq => simp [vwCl] at hq
  obtain ⟨cI, hI1, hI2⟩ := law_arr (hts (.arrayClass .int) (by decide +kernel)) (fun _ h => by cases h)
  obtain ⟨cC, hC1, hC2⟩ := law_arr (hts (.arrayClass .char) (by decide +kernel)) (fun _ h => by cases h)
  obtain ⟨cZ, hZ1, hZ2⟩ := law_arr (hts (.arrayClass .boolean) (by decide +kernel)) (fun _ h => by cases h)
  refine ⟨((dC, dI), (cI, (cC, cZ))), ⟨hKc, fun k q hq => ?_⟩, fun q hq => ?_⟩
  · match k, hq with
    | 0, hq => cases hq; exact ⟨hI1, hI2⟩
    | 1, hq => cases hq; exact ⟨hC1, hC2⟩
    | 2, hq => cases hq; exact ⟨hZ1, hZ2⟩
    | k + 3, hq => simp [zT] at hq
  · refine va_Nw.of rfl (hts _ ?_)
    have hm : ∀ q ∈ zNl, (Cond.methodLinkNest q.1 q.2.1 q.2.2.1 q.2.2.2) ∈ lw_tbl := by decide +kernel
    exact hm q hq
set_option maxHeartbeats 8000000 in
set_option maxRecDepth 100000 in
theorem whole_start {p : Program} {e : Env} {s : State} {m : MethodId} {below : List Frame} {meth : Method} {c : Code} (l : Launch) {b L : Nat} {xs : Nat → Int32} (hL : L ≤ 3584) (C0 : lw_At p s m meth c b L xs) : W p l e room_1 s m #[Value.ref b] below meth c s.heap [] 0 0 (lw_Z below #[Value.ref b] s) (entryFrame m ([Value.ref b] : List Value).toArray 4) := by
  obtain ⟨hx, hb, hr, hml, hown, hts0, hX, hbl, hlocks, hgv⟩ := id C0
  have hts : ∀ w ∈ wsL_law, w.before #[Value.ref b] s = true := fun w h => hts0 w (wsL_law_in w h)
  have hbA : ¬ zA s b := Nat.not_le.mpr hbl
  have hA : ∀ q : Nat, s.heap.size ≤ q → zA s q := fun _ h => h
  have hC : CallFix p m c cL_law 4 s #[Value.ref b] wsL_law RL := ⟨hx, hb, hml, hown, hts⟩
  obtain ⟨KV, hZ⟩ := law_strs hts0 hgv
  obtain ⟨G, hE⟩ := law_env hts0
  have hK := hE.1
  have hS : va_S (zA s) s.heap s.heap [] := va_S.rf
  have hP : va_P G.1 vwCl [] s.heap := fun k q h => by simp at h
  have hD : va_D (zA s) [] := ⟨fun i j p q h => by simp at h, fun k q h => by simp at h⟩
  have hl := lv_entry ([.ref b]) (n := 4) (Nat.le_of_ble_eq_true rfl)
  rw [lg_entry_eq]
  generalize (lg_sl ([.ref b]) ++ List.replicate (4 - (lg_sl ([.ref b])).length) Slot.unset).toArray = ls at hl ⊢
  have hl : lv_has ls 4 [(0, .ref b)] := hl
  refine va_new (ci := 8) (fs := [.null, .null, .null, .null, .null, .null, .null, .null, .null, .null, .null, .long 0]) (C := RX8) (T := TX8) (N := 12) hx hb hts inlX8 tyX8 tyX8_ok hown (hts (.classLink RL 7 RX8) (by decide +kernel)) (hts (.instantiable RX8 12) (by decide +kernel)) (hts (.initialized RX8) (by decide +kernel)) hK hP hD hS hA rfl (fun j hj => by rcases (show j = 0 ∨ j = 1 ∨ j = 2 ∨ j = 3 ∨ j = 4 ∨ j = 5 ∨ j = 6 ∨ j = 7 ∨ j = 8 ∨ j = 9 ∨ j = 10 ∨ j = 11 by omega) with rfl | rfl | rfl | rfl | rfl | rfl | rfl | rfl | rfl | rfl | rfl | rfl <;> rfl) (Nat.le_of_ble_eq_true rfl) (Nat.le_of_ble_eq_true rfl) dL_law_0 (fun qx H hP hD hS => ?_)
  have hP : va_P G.1 vwCl [(qx, .inr (8, [.null, .null, .null, .null, .null, .null, .null, .null, .null, .null, .null, .long 0]))] H := hP
  have hD : va_D (zA s) [(qx, .inr (8, [.null, .null, .null, .null, .null, .null, .null, .null, .null, .null, .null, .long 0]))] := hD
  refine W.widen (k := 1) (n := 12) (by omega) (by omega) ?_
  refine lv_dup hx hb dL_law_3 rfl ?_
  refine zCn (wr := []) (va_runI (As := []) (rest := [.ref qx]) hC (c_X8_init l G _ qx) (cwI 0 hts gL_law_X8_init rfl rfl rfl (hts (.initialized RX8) (by decide +kernel)) (hts (.methodLink RL 9 yX8_init) (by decide +kernel)) (hts (.instanceMethod yX8_init) (by decide +kernel)) rfl hd_X8_init.2 ⟨(Nat.le_of_ble_eq_true rfl), (Nat.le_of_ble_eq_true rfl)⟩) (zPSw hE hP hD [0] rfl rfl) rfl rfl hl.1 rfl (lv_room (Nat.le_of_ble_eq_true rfl)) dL_law_4 ⟨(Nat.le_of_ble_eq_true rfl), (Nat.le_of_ble_eq_true rfl)⟩) hP hD hS hA [0] [] rfl rfl rfl (by decide) (fun u H locs hP hD hS => ?_)
  have hP : va_P G.1 vwCl [(qx, .inr (8, [.ref (u 0), .ref (u 2), .ref (u 4), .ref (u 11), .ref (u 18), .ref (u 26), .ref (u 34), .ref (u 42), .ref (u 43), .ref (u 51), .ref (u 54), .long (0 : Int64)])), ((u 0), .inr (7, [.ref (u 1), .int (0 : Int32), .int (0 : Int32), .int (0 : Int32), .int (0 : Int32), .int (0 : Int32)])), ((u 1), .inl (G.2.2.1, 300, .inl (fun _ => 0))), ((u 2), .inr (3, [.ref (u 3)])), ((u 3), .inl (G.2.1, 5, .inl (fun _ => 0))), ((u 4), .inr (5, [.int (4 : Int32), .int (0 : Int32), .ref (u 5), .ref (u 6), .ref (u 7), .int (0 : Int32), .ref (u 8), .ref (u 9)])), ((u 5), .inl (G.2.1, 8, .inl (fun _ => 0))), ((u 6), .inl (G.2.1, 8, .inl (fun _ => 0))), ((u 7), .inl (G.2.1, 8, .inl (fun _ => 0))), ((u 8), .inl (G.2.1, 4, .inl (fun _ => 0))), ((u 9), .inr (6, [.int (if (10 : Int32) < ((10 : Int32)) then (10 : Int32) else ((10 : Int32))), .ref (u 10), .int (0 : Int32)])), ((u 10), .inl (G.2.1, 50, .inl (fun _ => 0))), ((u 11), .inr (5, [.int (4 : Int32), .int (0 : Int32), .ref (u 12), .ref (u 13), .ref (u 14), .int (0 : Int32), .ref (u 15), .ref (u 16)])), ((u 12), .inl (G.2.1, 8, .inl (fun _ => 0))), ((u 13), .inl (G.2.1, 8, .inl (fun _ => 0))), ((u 14), .inl (G.2.1, 8, .inl (fun _ => 0))), ((u 15), .inl (G.2.1, 4, .inl (fun _ => 0))), ((u 16), .inr (6, [.int (if (10 : Int32) < ((10 : Int32)) then (10 : Int32) else ((10 : Int32))), .ref (u 17), .int (0 : Int32)])), ((u 17), .inl (G.2.1, 50, .inl (fun _ => 0))), ((u 18), .inr (0, [.int (0 : Int32), .int (1 : Int32), .ref (u 19), .ref (u 20), .ref (u 22)])), ((u 19), .inl (G.2.1, 4, .inl (fun _ => 0))), ((u 20), .inr (6, [.int (if (10 : Int32) < ((10 : Int32)) then (10 : Int32) else ((10 : Int32))), .ref (u 21), .int (0 : Int32)])), ((u 21), .inl (G.2.1, 50, .inl (fun _ => 0))), ((u 22), .inr (2, [.ref (u 23), .ref (u 25)])), ((u 23), .inr (6, [.int (if (10 : Int32) < ((6 : Int32)) then (10 : Int32) else ((6 : Int32))), .ref (u 24), .int (0 : Int32)])), ((u 24), .inl (G.2.1, 50, .inl (fun _ => 0))), ((u 25), .inl (G.2.1, 6, .inl (fun _ => 0))), ((u 26), .inr (0, [.int (0 : Int32), .int (0 : Int32), .ref (u 27), .ref (u 28), .ref (u 30)])), ((u 27), .inl (G.2.1, 4, .inl (fun _ => 0))), ((u 28), .inr (6, [.int (if (10 : Int32) < ((10 : Int32)) then (10 : Int32) else ((10 : Int32))), .ref (u 29), .int (0 : Int32)])), ((u 29), .inl (G.2.1, 50, .inl (fun _ => 0))), ((u 30), .inr (2, [.ref (u 31), .ref (u 33)])), ((u 31), .inr (6, [.int (if (10 : Int32) < ((6 : Int32)) then (10 : Int32) else ((6 : Int32))), .ref (u 32), .int (0 : Int32)])), ((u 32), .inl (G.2.1, 50, .inl (fun _ => 0))), ((u 33), .inl (G.2.1, 6, .inl (fun _ => 0))), ((u 34), .inr (0, [.int (0 : Int32), .int (0 : Int32), .ref (u 35), .ref (u 36), .ref (u 38)])), ((u 35), .inl (G.2.1, 4, .inl (fun _ => 0))), ((u 36), .inr (6, [.int (if (10 : Int32) < ((10 : Int32)) then (10 : Int32) else ((10 : Int32))), .ref (u 37), .int (0 : Int32)])), ((u 37), .inl (G.2.1, 50, .inl (fun _ => 0))), ((u 38), .inr (2, [.ref (u 39), .ref (u 41)])), ((u 39), .inr (6, [.int (if (10 : Int32) < ((6 : Int32)) then (10 : Int32) else ((6 : Int32))), .ref (u 40), .int (0 : Int32)])), ((u 40), .inl (G.2.1, 50, .inl (fun _ => 0))), ((u 41), .inl (G.2.1, 6, .inl (fun _ => 0))), ((u 42), .inl (G.2.2.2, 2, .inl (fun _ => 0))), ((u 43), .inr (1, [.ref (u 44), .ref (u 46), .ref (u 47), .ref (u 48), .ref (u 49), .ref (u 50)])), ((u 44), .inr (6, [.int (if (10 : Int32) < ((8 : Int32)) then (10 : Int32) else ((8 : Int32))), .ref (u 45), .int (0 : Int32)])), ((u 45), .inl (G.2.1, 50, .inl (fun _ => 0))), ((u 46), .inl (G.2.1, 8, .inl (fun _ => 0))), ((u 47), .inl (G.2.1, 8, .inl (fun _ => 0))), ((u 48), .inl (G.2.1, 8, .inl (fun _ => 0))), ((u 49), .inl (G.2.1, 100, .inl (fun _ => 0))), ((u 50), .inl (G.2.1, 4, .inl (fun _ => 0))), ((u 51), .inr (4, [.int (0 : Int32), .ref (u 52), .ref (u 53)])), ((u 52), .inl (G.2.1, 8, .inl (fun _ => 0))), ((u 53), .inl (G.2.1, 8, .inl (fun _ => 0))), ((u 54), .inl (G.2.1, 24, .inl (fun _ => 0)))] H := hP
  have hD : va_D (zA s) [(qx, .inr (8, [.ref (u 0), .ref (u 2), .ref (u 4), .ref (u 11), .ref (u 18), .ref (u 26), .ref (u 34), .ref (u 42), .ref (u 43), .ref (u 51), .ref (u 54), .long (0 : Int64)])), ((u 0), .inr (7, [.ref (u 1), .int (0 : Int32), .int (0 : Int32), .int (0 : Int32), .int (0 : Int32), .int (0 : Int32)])), ((u 1), .inl (G.2.2.1, 300, .inl (fun _ => 0))), ((u 2), .inr (3, [.ref (u 3)])), ((u 3), .inl (G.2.1, 5, .inl (fun _ => 0))), ((u 4), .inr (5, [.int (4 : Int32), .int (0 : Int32), .ref (u 5), .ref (u 6), .ref (u 7), .int (0 : Int32), .ref (u 8), .ref (u 9)])), ((u 5), .inl (G.2.1, 8, .inl (fun _ => 0))), ((u 6), .inl (G.2.1, 8, .inl (fun _ => 0))), ((u 7), .inl (G.2.1, 8, .inl (fun _ => 0))), ((u 8), .inl (G.2.1, 4, .inl (fun _ => 0))), ((u 9), .inr (6, [.int (if (10 : Int32) < ((10 : Int32)) then (10 : Int32) else ((10 : Int32))), .ref (u 10), .int (0 : Int32)])), ((u 10), .inl (G.2.1, 50, .inl (fun _ => 0))), ((u 11), .inr (5, [.int (4 : Int32), .int (0 : Int32), .ref (u 12), .ref (u 13), .ref (u 14), .int (0 : Int32), .ref (u 15), .ref (u 16)])), ((u 12), .inl (G.2.1, 8, .inl (fun _ => 0))), ((u 13), .inl (G.2.1, 8, .inl (fun _ => 0))), ((u 14), .inl (G.2.1, 8, .inl (fun _ => 0))), ((u 15), .inl (G.2.1, 4, .inl (fun _ => 0))), ((u 16), .inr (6, [.int (if (10 : Int32) < ((10 : Int32)) then (10 : Int32) else ((10 : Int32))), .ref (u 17), .int (0 : Int32)])), ((u 17), .inl (G.2.1, 50, .inl (fun _ => 0))), ((u 18), .inr (0, [.int (0 : Int32), .int (1 : Int32), .ref (u 19), .ref (u 20), .ref (u 22)])), ((u 19), .inl (G.2.1, 4, .inl (fun _ => 0))), ((u 20), .inr (6, [.int (if (10 : Int32) < ((10 : Int32)) then (10 : Int32) else ((10 : Int32))), .ref (u 21), .int (0 : Int32)])), ((u 21), .inl (G.2.1, 50, .inl (fun _ => 0))), ((u 22), .inr (2, [.ref (u 23), .ref (u 25)])), ((u 23), .inr (6, [.int (if (10 : Int32) < ((6 : Int32)) then (10 : Int32) else ((6 : Int32))), .ref (u 24), .int (0 : Int32)])), ((u 24), .inl (G.2.1, 50, .inl (fun _ => 0))), ((u 25), .inl (G.2.1, 6, .inl (fun _ => 0))), ((u 26), .inr (0, [.int (0 : Int32), .int (0 : Int32), .ref (u 27), .ref (u 28), .ref (u 30)])), ((u 27), .inl (G.2.1, 4, .inl (fun _ => 0))), ((u 28), .inr (6, [.int (if (10 : Int32) < ((10 : Int32)) then (10 : Int32) else ((10 : Int32))), .ref (u 29), .int (0 : Int32)])), ((u 29), .inl (G.2.1, 50, .inl (fun _ => 0))), ((u 30), .inr (2, [.ref (u 31), .ref (u 33)])), ((u 31), .inr (6, [.int (if (10 : Int32) < ((6 : Int32)) then (10 : Int32) else ((6 : Int32))), .ref (u 32), .int (0 : Int32)])), ((u 32), .inl (G.2.1, 50, .inl (fun _ => 0))), ((u 33), .inl (G.2.1, 6, .inl (fun _ => 0))), ((u 34), .inr (0, [.int (0 : Int32), .int (0 : Int32), .ref (u 35), .ref (u 36), .ref (u 38)])), ((u 35), .inl (G.2.1, 4, .inl (fun _ => 0))), ((u 36), .inr (6, [.int (if (10 : Int32) < ((10 : Int32)) then (10 : Int32) else ((10 : Int32))), .ref (u 37), .int (0 : Int32)])), ((u 37), .inl (G.2.1, 50, .inl (fun _ => 0))), ((u 38), .inr (2, [.ref (u 39), .ref (u 41)])), ((u 39), .inr (6, [.int (if (10 : Int32) < ((6 : Int32)) then (10 : Int32) else ((6 : Int32))), .ref (u 40), .int (0 : Int32)])), ((u 40), .inl (G.2.1, 50, .inl (fun _ => 0))), ((u 41), .inl (G.2.1, 6, .inl (fun _ => 0))), ((u 42), .inl (G.2.2.2, 2, .inl (fun _ => 0))), ((u 43), .inr (1, [.ref (u 44), .ref (u 46), .ref (u 47), .ref (u 48), .ref (u 49), .ref (u 50)])), ((u 44), .inr (6, [.int (if (10 : Int32) < ((8 : Int32)) then (10 : Int32) else ((8 : Int32))), .ref (u 45), .int (0 : Int32)])), ((u 45), .inl (G.2.1, 50, .inl (fun _ => 0))), ((u 46), .inl (G.2.1, 8, .inl (fun _ => 0))), ((u 47), .inl (G.2.1, 8, .inl (fun _ => 0))), ((u 48), .inl (G.2.1, 8, .inl (fun _ => 0))), ((u 49), .inl (G.2.1, 100, .inl (fun _ => 0))), ((u 50), .inl (G.2.1, 4, .inl (fun _ => 0))), ((u 51), .inr (4, [.int (0 : Int32), .ref (u 52), .ref (u 53)])), ((u 52), .inl (G.2.1, 8, .inl (fun _ => 0))), ((u 53), .inl (G.2.1, 8, .inl (fun _ => 0))), ((u 54), .inl (G.2.1, 24, .inl (fun _ => 0)))] := hD
  refine W.widen (k := 56) (n := 1103) (by omega) (by omega) ?_
  refine lv_astore_n (lv' := [(1, .ref qx), (0, .ref b)]) hx hb dL_law_7 rfl hl (by decide) rfl (fun ls hl => ?_)
  refine va_new (ci := 9) (fs := [.int 0, .long 0, .null, .int 0, .int 0, .int 0, .int 0, .int 0, .int 0, .int 0, .null, .null, .null, .int 0, .int 0, .int 0, .int 0, .int 0, .int 0, .null, .null, .null, .null, .int 0, .null, .int 0]) (C := RX9) (T := TX9) (N := 26) hx hb hts inlX9 tyX9 tyX9_ok hown (hts (.classLink RL 10 RX9) (by decide +kernel)) (hts (.instantiable RX9 26) (by decide +kernel)) (hts (.initialized RX9) (by decide +kernel)) hK hP hD hS hA rfl (fun j hj => by rcases (show j = 0 ∨ j = 1 ∨ j = 2 ∨ j = 3 ∨ j = 4 ∨ j = 5 ∨ j = 6 ∨ j = 7 ∨ j = 8 ∨ j = 9 ∨ j = 10 ∨ j = 11 ∨ j = 12 ∨ j = 13 ∨ j = 14 ∨ j = 15 ∨ j = 16 ∨ j = 17 ∨ j = 18 ∨ j = 19 ∨ j = 20 ∨ j = 21 ∨ j = 22 ∨ j = 23 ∨ j = 24 ∨ j = 25 by omega) with rfl | rfl | rfl | rfl | rfl | rfl | rfl | rfl | rfl | rfl | rfl | rfl | rfl | rfl | rfl | rfl | rfl | rfl | rfl | rfl | rfl | rfl | rfl | rfl | rfl | rfl <;> rfl) (Nat.le_of_ble_eq_true rfl) (Nat.le_of_ble_eq_true rfl) dL_law_8 (fun qm H hP hD hS => ?_)
  have hP : va_P G.1 vwCl [(qx, .inr (8, [.ref (u 0), .ref (u 2), .ref (u 4), .ref (u 11), .ref (u 18), .ref (u 26), .ref (u 34), .ref (u 42), .ref (u 43), .ref (u 51), .ref (u 54), .long (0 : Int64)])), ((u 0), .inr (7, [.ref (u 1), .int (0 : Int32), .int (0 : Int32), .int (0 : Int32), .int (0 : Int32), .int (0 : Int32)])), ((u 1), .inl (G.2.2.1, 300, .inl (fun _ => 0))), ((u 2), .inr (3, [.ref (u 3)])), ((u 3), .inl (G.2.1, 5, .inl (fun _ => 0))), ((u 4), .inr (5, [.int (4 : Int32), .int (0 : Int32), .ref (u 5), .ref (u 6), .ref (u 7), .int (0 : Int32), .ref (u 8), .ref (u 9)])), ((u 5), .inl (G.2.1, 8, .inl (fun _ => 0))), ((u 6), .inl (G.2.1, 8, .inl (fun _ => 0))), ((u 7), .inl (G.2.1, 8, .inl (fun _ => 0))), ((u 8), .inl (G.2.1, 4, .inl (fun _ => 0))), ((u 9), .inr (6, [.int (if (10 : Int32) < ((10 : Int32)) then (10 : Int32) else ((10 : Int32))), .ref (u 10), .int (0 : Int32)])), ((u 10), .inl (G.2.1, 50, .inl (fun _ => 0))), ((u 11), .inr (5, [.int (4 : Int32), .int (0 : Int32), .ref (u 12), .ref (u 13), .ref (u 14), .int (0 : Int32), .ref (u 15), .ref (u 16)])), ((u 12), .inl (G.2.1, 8, .inl (fun _ => 0))), ((u 13), .inl (G.2.1, 8, .inl (fun _ => 0))), ((u 14), .inl (G.2.1, 8, .inl (fun _ => 0))), ((u 15), .inl (G.2.1, 4, .inl (fun _ => 0))), ((u 16), .inr (6, [.int (if (10 : Int32) < ((10 : Int32)) then (10 : Int32) else ((10 : Int32))), .ref (u 17), .int (0 : Int32)])), ((u 17), .inl (G.2.1, 50, .inl (fun _ => 0))), ((u 18), .inr (0, [.int (0 : Int32), .int (1 : Int32), .ref (u 19), .ref (u 20), .ref (u 22)])), ((u 19), .inl (G.2.1, 4, .inl (fun _ => 0))), ((u 20), .inr (6, [.int (if (10 : Int32) < ((10 : Int32)) then (10 : Int32) else ((10 : Int32))), .ref (u 21), .int (0 : Int32)])), ((u 21), .inl (G.2.1, 50, .inl (fun _ => 0))), ((u 22), .inr (2, [.ref (u 23), .ref (u 25)])), ((u 23), .inr (6, [.int (if (10 : Int32) < ((6 : Int32)) then (10 : Int32) else ((6 : Int32))), .ref (u 24), .int (0 : Int32)])), ((u 24), .inl (G.2.1, 50, .inl (fun _ => 0))), ((u 25), .inl (G.2.1, 6, .inl (fun _ => 0))), ((u 26), .inr (0, [.int (0 : Int32), .int (0 : Int32), .ref (u 27), .ref (u 28), .ref (u 30)])), ((u 27), .inl (G.2.1, 4, .inl (fun _ => 0))), ((u 28), .inr (6, [.int (if (10 : Int32) < ((10 : Int32)) then (10 : Int32) else ((10 : Int32))), .ref (u 29), .int (0 : Int32)])), ((u 29), .inl (G.2.1, 50, .inl (fun _ => 0))), ((u 30), .inr (2, [.ref (u 31), .ref (u 33)])), ((u 31), .inr (6, [.int (if (10 : Int32) < ((6 : Int32)) then (10 : Int32) else ((6 : Int32))), .ref (u 32), .int (0 : Int32)])), ((u 32), .inl (G.2.1, 50, .inl (fun _ => 0))), ((u 33), .inl (G.2.1, 6, .inl (fun _ => 0))), ((u 34), .inr (0, [.int (0 : Int32), .int (0 : Int32), .ref (u 35), .ref (u 36), .ref (u 38)])), ((u 35), .inl (G.2.1, 4, .inl (fun _ => 0))), ((u 36), .inr (6, [.int (if (10 : Int32) < ((10 : Int32)) then (10 : Int32) else ((10 : Int32))), .ref (u 37), .int (0 : Int32)])), ((u 37), .inl (G.2.1, 50, .inl (fun _ => 0))), ((u 38), .inr (2, [.ref (u 39), .ref (u 41)])), ((u 39), .inr (6, [.int (if (10 : Int32) < ((6 : Int32)) then (10 : Int32) else ((6 : Int32))), .ref (u 40), .int (0 : Int32)])), ((u 40), .inl (G.2.1, 50, .inl (fun _ => 0))), ((u 41), .inl (G.2.1, 6, .inl (fun _ => 0))), ((u 42), .inl (G.2.2.2, 2, .inl (fun _ => 0))), ((u 43), .inr (1, [.ref (u 44), .ref (u 46), .ref (u 47), .ref (u 48), .ref (u 49), .ref (u 50)])), ((u 44), .inr (6, [.int (if (10 : Int32) < ((8 : Int32)) then (10 : Int32) else ((8 : Int32))), .ref (u 45), .int (0 : Int32)])), ((u 45), .inl (G.2.1, 50, .inl (fun _ => 0))), ((u 46), .inl (G.2.1, 8, .inl (fun _ => 0))), ((u 47), .inl (G.2.1, 8, .inl (fun _ => 0))), ((u 48), .inl (G.2.1, 8, .inl (fun _ => 0))), ((u 49), .inl (G.2.1, 100, .inl (fun _ => 0))), ((u 50), .inl (G.2.1, 4, .inl (fun _ => 0))), ((u 51), .inr (4, [.int (0 : Int32), .ref (u 52), .ref (u 53)])), ((u 52), .inl (G.2.1, 8, .inl (fun _ => 0))), ((u 53), .inl (G.2.1, 8, .inl (fun _ => 0))), ((u 54), .inl (G.2.1, 24, .inl (fun _ => 0))), (qm, .inr (9, [.int 0, .long 0, .null, .int 0, .int 0, .int 0, .int 0, .int 0, .int 0, .int 0, .null, .null, .null, .int 0, .int 0, .int 0, .int 0, .int 0, .int 0, .null, .null, .null, .null, .int 0, .null, .int 0]))] H := hP
  have hD : va_D (zA s) [(qx, .inr (8, [.ref (u 0), .ref (u 2), .ref (u 4), .ref (u 11), .ref (u 18), .ref (u 26), .ref (u 34), .ref (u 42), .ref (u 43), .ref (u 51), .ref (u 54), .long (0 : Int64)])), ((u 0), .inr (7, [.ref (u 1), .int (0 : Int32), .int (0 : Int32), .int (0 : Int32), .int (0 : Int32), .int (0 : Int32)])), ((u 1), .inl (G.2.2.1, 300, .inl (fun _ => 0))), ((u 2), .inr (3, [.ref (u 3)])), ((u 3), .inl (G.2.1, 5, .inl (fun _ => 0))), ((u 4), .inr (5, [.int (4 : Int32), .int (0 : Int32), .ref (u 5), .ref (u 6), .ref (u 7), .int (0 : Int32), .ref (u 8), .ref (u 9)])), ((u 5), .inl (G.2.1, 8, .inl (fun _ => 0))), ((u 6), .inl (G.2.1, 8, .inl (fun _ => 0))), ((u 7), .inl (G.2.1, 8, .inl (fun _ => 0))), ((u 8), .inl (G.2.1, 4, .inl (fun _ => 0))), ((u 9), .inr (6, [.int (if (10 : Int32) < ((10 : Int32)) then (10 : Int32) else ((10 : Int32))), .ref (u 10), .int (0 : Int32)])), ((u 10), .inl (G.2.1, 50, .inl (fun _ => 0))), ((u 11), .inr (5, [.int (4 : Int32), .int (0 : Int32), .ref (u 12), .ref (u 13), .ref (u 14), .int (0 : Int32), .ref (u 15), .ref (u 16)])), ((u 12), .inl (G.2.1, 8, .inl (fun _ => 0))), ((u 13), .inl (G.2.1, 8, .inl (fun _ => 0))), ((u 14), .inl (G.2.1, 8, .inl (fun _ => 0))), ((u 15), .inl (G.2.1, 4, .inl (fun _ => 0))), ((u 16), .inr (6, [.int (if (10 : Int32) < ((10 : Int32)) then (10 : Int32) else ((10 : Int32))), .ref (u 17), .int (0 : Int32)])), ((u 17), .inl (G.2.1, 50, .inl (fun _ => 0))), ((u 18), .inr (0, [.int (0 : Int32), .int (1 : Int32), .ref (u 19), .ref (u 20), .ref (u 22)])), ((u 19), .inl (G.2.1, 4, .inl (fun _ => 0))), ((u 20), .inr (6, [.int (if (10 : Int32) < ((10 : Int32)) then (10 : Int32) else ((10 : Int32))), .ref (u 21), .int (0 : Int32)])), ((u 21), .inl (G.2.1, 50, .inl (fun _ => 0))), ((u 22), .inr (2, [.ref (u 23), .ref (u 25)])), ((u 23), .inr (6, [.int (if (10 : Int32) < ((6 : Int32)) then (10 : Int32) else ((6 : Int32))), .ref (u 24), .int (0 : Int32)])), ((u 24), .inl (G.2.1, 50, .inl (fun _ => 0))), ((u 25), .inl (G.2.1, 6, .inl (fun _ => 0))), ((u 26), .inr (0, [.int (0 : Int32), .int (0 : Int32), .ref (u 27), .ref (u 28), .ref (u 30)])), ((u 27), .inl (G.2.1, 4, .inl (fun _ => 0))), ((u 28), .inr (6, [.int (if (10 : Int32) < ((10 : Int32)) then (10 : Int32) else ((10 : Int32))), .ref (u 29), .int (0 : Int32)])), ((u 29), .inl (G.2.1, 50, .inl (fun _ => 0))), ((u 30), .inr (2, [.ref (u 31), .ref (u 33)])), ((u 31), .inr (6, [.int (if (10 : Int32) < ((6 : Int32)) then (10 : Int32) else ((6 : Int32))), .ref (u 32), .int (0 : Int32)])), ((u 32), .inl (G.2.1, 50, .inl (fun _ => 0))), ((u 33), .inl (G.2.1, 6, .inl (fun _ => 0))), ((u 34), .inr (0, [.int (0 : Int32), .int (0 : Int32), .ref (u 35), .ref (u 36), .ref (u 38)])), ((u 35), .inl (G.2.1, 4, .inl (fun _ => 0))), ((u 36), .inr (6, [.int (if (10 : Int32) < ((10 : Int32)) then (10 : Int32) else ((10 : Int32))), .ref (u 37), .int (0 : Int32)])), ((u 37), .inl (G.2.1, 50, .inl (fun _ => 0))), ((u 38), .inr (2, [.ref (u 39), .ref (u 41)])), ((u 39), .inr (6, [.int (if (10 : Int32) < ((6 : Int32)) then (10 : Int32) else ((6 : Int32))), .ref (u 40), .int (0 : Int32)])), ((u 40), .inl (G.2.1, 50, .inl (fun _ => 0))), ((u 41), .inl (G.2.1, 6, .inl (fun _ => 0))), ((u 42), .inl (G.2.2.2, 2, .inl (fun _ => 0))), ((u 43), .inr (1, [.ref (u 44), .ref (u 46), .ref (u 47), .ref (u 48), .ref (u 49), .ref (u 50)])), ((u 44), .inr (6, [.int (if (10 : Int32) < ((8 : Int32)) then (10 : Int32) else ((8 : Int32))), .ref (u 45), .int (0 : Int32)])), ((u 45), .inl (G.2.1, 50, .inl (fun _ => 0))), ((u 46), .inl (G.2.1, 8, .inl (fun _ => 0))), ((u 47), .inl (G.2.1, 8, .inl (fun _ => 0))), ((u 48), .inl (G.2.1, 8, .inl (fun _ => 0))), ((u 49), .inl (G.2.1, 100, .inl (fun _ => 0))), ((u 50), .inl (G.2.1, 4, .inl (fun _ => 0))), ((u 51), .inr (4, [.int (0 : Int32), .ref (u 52), .ref (u 53)])), ((u 52), .inl (G.2.1, 8, .inl (fun _ => 0))), ((u 53), .inl (G.2.1, 8, .inl (fun _ => 0))), ((u 54), .inl (G.2.1, 24, .inl (fun _ => 0))), (qm, .inr (9, [.int 0, .long 0, .null, .int 0, .int 0, .int 0, .int 0, .int 0, .int 0, .int 0, .null, .null, .null, .int 0, .int 0, .int 0, .int 0, .int 0, .int 0, .null, .null, .null, .null, .int 0, .null, .int 0]))] := hD
  refine W.widen (k := 57) (n := 1129) (by omega) (by omega) ?_
  refine lv_dup hx hb dL_law_11 rfl ?_
  refine zCn (wr := [(qx, .inr (8, [.ref (u 0), .ref (u 2), .ref (u 4), .ref (u 11), .ref (u 18), .ref (u 26), .ref (u 34), .ref (u 42), .ref (u 43), .ref (u 51), .ref (u 54), .long (0 : Int64)])), ((u 0), .inr (7, [.ref (u 1), .int (0 : Int32), .int (0 : Int32), .int (0 : Int32), .int (0 : Int32), .int (0 : Int32)])), ((u 1), .inl (G.2.2.1, 300, .inl (fun _ => 0))), ((u 2), .inr (3, [.ref (u 3)])), ((u 3), .inl (G.2.1, 5, .inl (fun _ => 0))), ((u 4), .inr (5, [.int (4 : Int32), .int (0 : Int32), .ref (u 5), .ref (u 6), .ref (u 7), .int (0 : Int32), .ref (u 8), .ref (u 9)])), ((u 5), .inl (G.2.1, 8, .inl (fun _ => 0))), ((u 6), .inl (G.2.1, 8, .inl (fun _ => 0))), ((u 7), .inl (G.2.1, 8, .inl (fun _ => 0))), ((u 8), .inl (G.2.1, 4, .inl (fun _ => 0))), ((u 9), .inr (6, [.int (if (10 : Int32) < ((10 : Int32)) then (10 : Int32) else ((10 : Int32))), .ref (u 10), .int (0 : Int32)])), ((u 10), .inl (G.2.1, 50, .inl (fun _ => 0))), ((u 11), .inr (5, [.int (4 : Int32), .int (0 : Int32), .ref (u 12), .ref (u 13), .ref (u 14), .int (0 : Int32), .ref (u 15), .ref (u 16)])), ((u 12), .inl (G.2.1, 8, .inl (fun _ => 0))), ((u 13), .inl (G.2.1, 8, .inl (fun _ => 0))), ((u 14), .inl (G.2.1, 8, .inl (fun _ => 0))), ((u 15), .inl (G.2.1, 4, .inl (fun _ => 0))), ((u 16), .inr (6, [.int (if (10 : Int32) < ((10 : Int32)) then (10 : Int32) else ((10 : Int32))), .ref (u 17), .int (0 : Int32)])), ((u 17), .inl (G.2.1, 50, .inl (fun _ => 0))), ((u 18), .inr (0, [.int (0 : Int32), .int (1 : Int32), .ref (u 19), .ref (u 20), .ref (u 22)])), ((u 19), .inl (G.2.1, 4, .inl (fun _ => 0))), ((u 20), .inr (6, [.int (if (10 : Int32) < ((10 : Int32)) then (10 : Int32) else ((10 : Int32))), .ref (u 21), .int (0 : Int32)])), ((u 21), .inl (G.2.1, 50, .inl (fun _ => 0))), ((u 22), .inr (2, [.ref (u 23), .ref (u 25)])), ((u 23), .inr (6, [.int (if (10 : Int32) < ((6 : Int32)) then (10 : Int32) else ((6 : Int32))), .ref (u 24), .int (0 : Int32)])), ((u 24), .inl (G.2.1, 50, .inl (fun _ => 0))), ((u 25), .inl (G.2.1, 6, .inl (fun _ => 0))), ((u 26), .inr (0, [.int (0 : Int32), .int (0 : Int32), .ref (u 27), .ref (u 28), .ref (u 30)])), ((u 27), .inl (G.2.1, 4, .inl (fun _ => 0))), ((u 28), .inr (6, [.int (if (10 : Int32) < ((10 : Int32)) then (10 : Int32) else ((10 : Int32))), .ref (u 29), .int (0 : Int32)])), ((u 29), .inl (G.2.1, 50, .inl (fun _ => 0))), ((u 30), .inr (2, [.ref (u 31), .ref (u 33)])), ((u 31), .inr (6, [.int (if (10 : Int32) < ((6 : Int32)) then (10 : Int32) else ((6 : Int32))), .ref (u 32), .int (0 : Int32)])), ((u 32), .inl (G.2.1, 50, .inl (fun _ => 0))), ((u 33), .inl (G.2.1, 6, .inl (fun _ => 0))), ((u 34), .inr (0, [.int (0 : Int32), .int (0 : Int32), .ref (u 35), .ref (u 36), .ref (u 38)])), ((u 35), .inl (G.2.1, 4, .inl (fun _ => 0))), ((u 36), .inr (6, [.int (if (10 : Int32) < ((10 : Int32)) then (10 : Int32) else ((10 : Int32))), .ref (u 37), .int (0 : Int32)])), ((u 37), .inl (G.2.1, 50, .inl (fun _ => 0))), ((u 38), .inr (2, [.ref (u 39), .ref (u 41)])), ((u 39), .inr (6, [.int (if (10 : Int32) < ((6 : Int32)) then (10 : Int32) else ((6 : Int32))), .ref (u 40), .int (0 : Int32)])), ((u 40), .inl (G.2.1, 50, .inl (fun _ => 0))), ((u 41), .inl (G.2.1, 6, .inl (fun _ => 0))), ((u 42), .inl (G.2.2.2, 2, .inl (fun _ => 0))), ((u 43), .inr (1, [.ref (u 44), .ref (u 46), .ref (u 47), .ref (u 48), .ref (u 49), .ref (u 50)])), ((u 44), .inr (6, [.int (if (10 : Int32) < ((8 : Int32)) then (10 : Int32) else ((8 : Int32))), .ref (u 45), .int (0 : Int32)])), ((u 45), .inl (G.2.1, 50, .inl (fun _ => 0))), ((u 46), .inl (G.2.1, 8, .inl (fun _ => 0))), ((u 47), .inl (G.2.1, 8, .inl (fun _ => 0))), ((u 48), .inl (G.2.1, 8, .inl (fun _ => 0))), ((u 49), .inl (G.2.1, 100, .inl (fun _ => 0))), ((u 50), .inl (G.2.1, 4, .inl (fun _ => 0))), ((u 51), .inr (4, [.int (0 : Int32), .ref (u 52), .ref (u 53)])), ((u 52), .inl (G.2.1, 8, .inl (fun _ => 0))), ((u 53), .inl (G.2.1, 8, .inl (fun _ => 0))), ((u 54), .inl (G.2.1, 24, .inl (fun _ => 0)))]) (va_runI (As := []) (rest := [.ref qm]) hC (c_X9_init l G _ qm) (cwI 0 hts gL_law_X9_init rfl rfl rfl (hts (.initialized RX9) (by decide +kernel)) (hts (.methodLink RL 12 yX9_init) (by decide +kernel)) (hts (.instanceMethod yX9_init) (by decide +kernel)) rfl hd_X9_init.2 ⟨(Nat.le_of_ble_eq_true rfl), (Nat.le_of_ble_eq_true rfl)⟩) (zPSw hE hP hD [56] rfl rfl) rfl rfl hl.1 rfl (lv_room (Nat.le_of_ble_eq_true rfl)) dL_law_12 ⟨(Nat.le_of_ble_eq_true rfl), (Nat.le_of_ble_eq_true rfl)⟩) hP hD hS hA [56] [0, 1, 2, 3, 4, 5, 6, 7, 8, 9, 10, 11, 12, 13, 14, 15, 16, 17, 18, 19, 20, 21, 22, 23, 24, 25, 26, 27, 28, 29, 30, 31, 32, 33, 34, 35, 36, 37, 38, 39, 40, 41, 42, 43, 44, 45, 46, 47, 48, 49, 50, 51, 52, 53, 54, 55] rfl rfl rfl (by decide) (fun um H locs hP hD hS => ?_)
  have hP : va_P G.1 vwCl [(qx, .inr (8, [.ref (u 0), .ref (u 2), .ref (u 4), .ref (u 11), .ref (u 18), .ref (u 26), .ref (u 34), .ref (u 42), .ref (u 43), .ref (u 51), .ref (u 54), .long (0 : Int64)])), ((u 0), .inr (7, [.ref (u 1), .int (0 : Int32), .int (0 : Int32), .int (0 : Int32), .int (0 : Int32), .int (0 : Int32)])), ((u 1), .inl (G.2.2.1, 300, .inl (fun _ => 0))), ((u 2), .inr (3, [.ref (u 3)])), ((u 3), .inl (G.2.1, 5, .inl (fun _ => 0))), ((u 4), .inr (5, [.int (4 : Int32), .int (0 : Int32), .ref (u 5), .ref (u 6), .ref (u 7), .int (0 : Int32), .ref (u 8), .ref (u 9)])), ((u 5), .inl (G.2.1, 8, .inl (fun _ => 0))), ((u 6), .inl (G.2.1, 8, .inl (fun _ => 0))), ((u 7), .inl (G.2.1, 8, .inl (fun _ => 0))), ((u 8), .inl (G.2.1, 4, .inl (fun _ => 0))), ((u 9), .inr (6, [.int (if (10 : Int32) < ((10 : Int32)) then (10 : Int32) else ((10 : Int32))), .ref (u 10), .int (0 : Int32)])), ((u 10), .inl (G.2.1, 50, .inl (fun _ => 0))), ((u 11), .inr (5, [.int (4 : Int32), .int (0 : Int32), .ref (u 12), .ref (u 13), .ref (u 14), .int (0 : Int32), .ref (u 15), .ref (u 16)])), ((u 12), .inl (G.2.1, 8, .inl (fun _ => 0))), ((u 13), .inl (G.2.1, 8, .inl (fun _ => 0))), ((u 14), .inl (G.2.1, 8, .inl (fun _ => 0))), ((u 15), .inl (G.2.1, 4, .inl (fun _ => 0))), ((u 16), .inr (6, [.int (if (10 : Int32) < ((10 : Int32)) then (10 : Int32) else ((10 : Int32))), .ref (u 17), .int (0 : Int32)])), ((u 17), .inl (G.2.1, 50, .inl (fun _ => 0))), ((u 18), .inr (0, [.int (0 : Int32), .int (1 : Int32), .ref (u 19), .ref (u 20), .ref (u 22)])), ((u 19), .inl (G.2.1, 4, .inl (fun _ => 0))), ((u 20), .inr (6, [.int (if (10 : Int32) < ((10 : Int32)) then (10 : Int32) else ((10 : Int32))), .ref (u 21), .int (0 : Int32)])), ((u 21), .inl (G.2.1, 50, .inl (fun _ => 0))), ((u 22), .inr (2, [.ref (u 23), .ref (u 25)])), ((u 23), .inr (6, [.int (if (10 : Int32) < ((6 : Int32)) then (10 : Int32) else ((6 : Int32))), .ref (u 24), .int (0 : Int32)])), ((u 24), .inl (G.2.1, 50, .inl (fun _ => 0))), ((u 25), .inl (G.2.1, 6, .inl (fun _ => 0))), ((u 26), .inr (0, [.int (0 : Int32), .int (0 : Int32), .ref (u 27), .ref (u 28), .ref (u 30)])), ((u 27), .inl (G.2.1, 4, .inl (fun _ => 0))), ((u 28), .inr (6, [.int (if (10 : Int32) < ((10 : Int32)) then (10 : Int32) else ((10 : Int32))), .ref (u 29), .int (0 : Int32)])), ((u 29), .inl (G.2.1, 50, .inl (fun _ => 0))), ((u 30), .inr (2, [.ref (u 31), .ref (u 33)])), ((u 31), .inr (6, [.int (if (10 : Int32) < ((6 : Int32)) then (10 : Int32) else ((6 : Int32))), .ref (u 32), .int (0 : Int32)])), ((u 32), .inl (G.2.1, 50, .inl (fun _ => 0))), ((u 33), .inl (G.2.1, 6, .inl (fun _ => 0))), ((u 34), .inr (0, [.int (0 : Int32), .int (0 : Int32), .ref (u 35), .ref (u 36), .ref (u 38)])), ((u 35), .inl (G.2.1, 4, .inl (fun _ => 0))), ((u 36), .inr (6, [.int (if (10 : Int32) < ((10 : Int32)) then (10 : Int32) else ((10 : Int32))), .ref (u 37), .int (0 : Int32)])), ((u 37), .inl (G.2.1, 50, .inl (fun _ => 0))), ((u 38), .inr (2, [.ref (u 39), .ref (u 41)])), ((u 39), .inr (6, [.int (if (10 : Int32) < ((6 : Int32)) then (10 : Int32) else ((6 : Int32))), .ref (u 40), .int (0 : Int32)])), ((u 40), .inl (G.2.1, 50, .inl (fun _ => 0))), ((u 41), .inl (G.2.1, 6, .inl (fun _ => 0))), ((u 42), .inl (G.2.2.2, 2, .inl (fun _ => 0))), ((u 43), .inr (1, [.ref (u 44), .ref (u 46), .ref (u 47), .ref (u 48), .ref (u 49), .ref (u 50)])), ((u 44), .inr (6, [.int (if (10 : Int32) < ((8 : Int32)) then (10 : Int32) else ((8 : Int32))), .ref (u 45), .int (0 : Int32)])), ((u 45), .inl (G.2.1, 50, .inl (fun _ => 0))), ((u 46), .inl (G.2.1, 8, .inl (fun _ => 0))), ((u 47), .inl (G.2.1, 8, .inl (fun _ => 0))), ((u 48), .inl (G.2.1, 8, .inl (fun _ => 0))), ((u 49), .inl (G.2.1, 100, .inl (fun _ => 0))), ((u 50), .inl (G.2.1, 4, .inl (fun _ => 0))), ((u 51), .inr (4, [.int (0 : Int32), .ref (u 52), .ref (u 53)])), ((u 52), .inl (G.2.1, 8, .inl (fun _ => 0))), ((u 53), .inl (G.2.1, 8, .inl (fun _ => 0))), ((u 54), .inl (G.2.1, 24, .inl (fun _ => 0))), (qm, .inr (9, [.int 0, .long 0, .ref (um 0), .int 0, .int 0, .int 0, .int 0, .int 0, .int 0, .int (4 : Int32), .ref (um 1), .ref (um 2), .ref (um 3), .int 0, .int 0, .int 0, .int 0, .int 0, .int 0, .ref (um 4), .ref (um 5), .ref (um 6), .ref (um 7), .int 0, .ref (um 8), .int 0])), ((um 0), .inl (G.2.1, 300, .inl (fun _ => 0))), ((um 1), .inl (G.2.1, 48, .inl (fun _ => 0))), ((um 2), .inl (G.2.1, 8, .inl (fun _ => 0))), ((um 3), .inl (G.2.1, 50, .inl (fun _ => 0))), ((um 4), .inl (G.2.1, 100, .inl (upd (fun _ => 0) ((1 : Int32)).toNatClampNeg (1 : Int32)))), ((um 5), .inl (G.2.1, 200, .inl (fun _ => 0))), ((um 6), .inl (G.2.2.2, 2, .inl (fun _ => 0))), ((um 7), .inl (G.2.1, 48, .inl (fun _ => 0))), ((um 8), .inl (G.2.1, 16, .inl (fun _ => 0)))] H := hP
  have hD : va_D (zA s) [(qx, .inr (8, [.ref (u 0), .ref (u 2), .ref (u 4), .ref (u 11), .ref (u 18), .ref (u 26), .ref (u 34), .ref (u 42), .ref (u 43), .ref (u 51), .ref (u 54), .long (0 : Int64)])), ((u 0), .inr (7, [.ref (u 1), .int (0 : Int32), .int (0 : Int32), .int (0 : Int32), .int (0 : Int32), .int (0 : Int32)])), ((u 1), .inl (G.2.2.1, 300, .inl (fun _ => 0))), ((u 2), .inr (3, [.ref (u 3)])), ((u 3), .inl (G.2.1, 5, .inl (fun _ => 0))), ((u 4), .inr (5, [.int (4 : Int32), .int (0 : Int32), .ref (u 5), .ref (u 6), .ref (u 7), .int (0 : Int32), .ref (u 8), .ref (u 9)])), ((u 5), .inl (G.2.1, 8, .inl (fun _ => 0))), ((u 6), .inl (G.2.1, 8, .inl (fun _ => 0))), ((u 7), .inl (G.2.1, 8, .inl (fun _ => 0))), ((u 8), .inl (G.2.1, 4, .inl (fun _ => 0))), ((u 9), .inr (6, [.int (if (10 : Int32) < ((10 : Int32)) then (10 : Int32) else ((10 : Int32))), .ref (u 10), .int (0 : Int32)])), ((u 10), .inl (G.2.1, 50, .inl (fun _ => 0))), ((u 11), .inr (5, [.int (4 : Int32), .int (0 : Int32), .ref (u 12), .ref (u 13), .ref (u 14), .int (0 : Int32), .ref (u 15), .ref (u 16)])), ((u 12), .inl (G.2.1, 8, .inl (fun _ => 0))), ((u 13), .inl (G.2.1, 8, .inl (fun _ => 0))), ((u 14), .inl (G.2.1, 8, .inl (fun _ => 0))), ((u 15), .inl (G.2.1, 4, .inl (fun _ => 0))), ((u 16), .inr (6, [.int (if (10 : Int32) < ((10 : Int32)) then (10 : Int32) else ((10 : Int32))), .ref (u 17), .int (0 : Int32)])), ((u 17), .inl (G.2.1, 50, .inl (fun _ => 0))), ((u 18), .inr (0, [.int (0 : Int32), .int (1 : Int32), .ref (u 19), .ref (u 20), .ref (u 22)])), ((u 19), .inl (G.2.1, 4, .inl (fun _ => 0))), ((u 20), .inr (6, [.int (if (10 : Int32) < ((10 : Int32)) then (10 : Int32) else ((10 : Int32))), .ref (u 21), .int (0 : Int32)])), ((u 21), .inl (G.2.1, 50, .inl (fun _ => 0))), ((u 22), .inr (2, [.ref (u 23), .ref (u 25)])), ((u 23), .inr (6, [.int (if (10 : Int32) < ((6 : Int32)) then (10 : Int32) else ((6 : Int32))), .ref (u 24), .int (0 : Int32)])), ((u 24), .inl (G.2.1, 50, .inl (fun _ => 0))), ((u 25), .inl (G.2.1, 6, .inl (fun _ => 0))), ((u 26), .inr (0, [.int (0 : Int32), .int (0 : Int32), .ref (u 27), .ref (u 28), .ref (u 30)])), ((u 27), .inl (G.2.1, 4, .inl (fun _ => 0))), ((u 28), .inr (6, [.int (if (10 : Int32) < ((10 : Int32)) then (10 : Int32) else ((10 : Int32))), .ref (u 29), .int (0 : Int32)])), ((u 29), .inl (G.2.1, 50, .inl (fun _ => 0))), ((u 30), .inr (2, [.ref (u 31), .ref (u 33)])), ((u 31), .inr (6, [.int (if (10 : Int32) < ((6 : Int32)) then (10 : Int32) else ((6 : Int32))), .ref (u 32), .int (0 : Int32)])), ((u 32), .inl (G.2.1, 50, .inl (fun _ => 0))), ((u 33), .inl (G.2.1, 6, .inl (fun _ => 0))), ((u 34), .inr (0, [.int (0 : Int32), .int (0 : Int32), .ref (u 35), .ref (u 36), .ref (u 38)])), ((u 35), .inl (G.2.1, 4, .inl (fun _ => 0))), ((u 36), .inr (6, [.int (if (10 : Int32) < ((10 : Int32)) then (10 : Int32) else ((10 : Int32))), .ref (u 37), .int (0 : Int32)])), ((u 37), .inl (G.2.1, 50, .inl (fun _ => 0))), ((u 38), .inr (2, [.ref (u 39), .ref (u 41)])), ((u 39), .inr (6, [.int (if (10 : Int32) < ((6 : Int32)) then (10 : Int32) else ((6 : Int32))), .ref (u 40), .int (0 : Int32)])), ((u 40), .inl (G.2.1, 50, .inl (fun _ => 0))), ((u 41), .inl (G.2.1, 6, .inl (fun _ => 0))), ((u 42), .inl (G.2.2.2, 2, .inl (fun _ => 0))), ((u 43), .inr (1, [.ref (u 44), .ref (u 46), .ref (u 47), .ref (u 48), .ref (u 49), .ref (u 50)])), ((u 44), .inr (6, [.int (if (10 : Int32) < ((8 : Int32)) then (10 : Int32) else ((8 : Int32))), .ref (u 45), .int (0 : Int32)])), ((u 45), .inl (G.2.1, 50, .inl (fun _ => 0))), ((u 46), .inl (G.2.1, 8, .inl (fun _ => 0))), ((u 47), .inl (G.2.1, 8, .inl (fun _ => 0))), ((u 48), .inl (G.2.1, 8, .inl (fun _ => 0))), ((u 49), .inl (G.2.1, 100, .inl (fun _ => 0))), ((u 50), .inl (G.2.1, 4, .inl (fun _ => 0))), ((u 51), .inr (4, [.int (0 : Int32), .ref (u 52), .ref (u 53)])), ((u 52), .inl (G.2.1, 8, .inl (fun _ => 0))), ((u 53), .inl (G.2.1, 8, .inl (fun _ => 0))), ((u 54), .inl (G.2.1, 24, .inl (fun _ => 0))), (qm, .inr (9, [.int 0, .long 0, .ref (um 0), .int 0, .int 0, .int 0, .int 0, .int 0, .int 0, .int (4 : Int32), .ref (um 1), .ref (um 2), .ref (um 3), .int 0, .int 0, .int 0, .int 0, .int 0, .int 0, .ref (um 4), .ref (um 5), .ref (um 6), .ref (um 7), .int 0, .ref (um 8), .int 0])), ((um 0), .inl (G.2.1, 300, .inl (fun _ => 0))), ((um 1), .inl (G.2.1, 48, .inl (fun _ => 0))), ((um 2), .inl (G.2.1, 8, .inl (fun _ => 0))), ((um 3), .inl (G.2.1, 50, .inl (fun _ => 0))), ((um 4), .inl (G.2.1, 100, .inl (upd (fun _ => 0) ((1 : Int32)).toNatClampNeg (1 : Int32)))), ((um 5), .inl (G.2.1, 200, .inl (fun _ => 0))), ((um 6), .inl (G.2.2.2, 2, .inl (fun _ => 0))), ((um 7), .inl (G.2.1, 48, .inl (fun _ => 0))), ((um 8), .inl (G.2.1, 16, .inl (fun _ => 0)))] := hD
  refine W.widen (k := 66) (n := 1901) (by omega) (by omega) ?_
  refine lv_astore_n (lv' := [(2, .ref qm), (1, .ref qx), (0, .ref b)]) hx hb dL_law_15 rfl hl (by decide) rfl (fun ls hl => ?_)
  refine lv_iconst (v := 0) hx hb dL_law_16 (by decide) ?_
  refine lv_istore_n (lv' := [(3, .int 0), (2, .ref qm), (1, .ref qx), (0, .ref b)]) hx hb dL_law_17 rfl hl (by decide) rfl (fun ls hl => ?_)
  have e0 : (0 : Int32) = nI (7 * 0) := rfl
  rw [e0] at hl
  exact law_loop hL C0 hE hZ 513 0 (by decide) (by omega) (fun k => [qx, (u 0), (u 1), (u 2), (u 3), (u 4), (u 5), (u 6), (u 7), (u 8), (u 9), (u 10), (u 11), (u 12), (u 13), (u 14), (u 15), (u 16), (u 17), (u 18), (u 19), (u 20), (u 21), (u 22), (u 23), (u 24), (u 25), (u 26), (u 27), (u 28), (u 29), (u 30), (u 31), (u 32), (u 33), (u 34), (u 35), (u 36), (u 37), (u 38), (u 39), (u 40), (u 41), (u 42), (u 43), (u 44), (u 45), (u 46), (u 47), (u 48), (u 49), (u 50), (u 51), (u 52), (u 53), (u 54)].getD k 0) (fun k => [qm, (um 0), (um 1), (um 2), (um 3), (um 4), (um 5), (um 6), (um 7), (um 8)].getD k 0) vS0 rS0 0 vmS0 rmS0 0 inv_start _ _ (hP.sub [0, 1, 2, 3, 4, 5, 6, 7, 8, 9, 10, 11, 12, 13, 14, 15, 16, 17, 18, 19, 20, 21, 22, 23, 24, 25, 26, 27, 28, 29, 30, 31, 32, 33, 34, 35, 36, 37, 38, 39, 40, 41, 42, 43, 44, 45, 46, 47, 48, 49, 50, 51, 52, 53, 54, 55, 56, 57, 58, 59, 60, 61, 62, 63, 64, 65] rfl) (hD.sub [0, 1, 2, 3, 4, 5, 6, 7, 8, 9, 10, 11, 12, 13, 14, 15, 16, 17, 18, 19, 20, 21, 22, 23, 24, 25, 26, 27, 28, 29, 30, 31, 32, 33, 34, 35, 36, 37, 38, 39, 40, 41, 42, 43, 44, 45, 46, 47, 48, 49, 50, 51, 52, 53, 54, 55, 56, 57, 58, 59, 60, 61, 62, 63, 64, 65] (by decide) rfl) hS ls (lv_sub hl [3, 2, 1, 0] rfl)
