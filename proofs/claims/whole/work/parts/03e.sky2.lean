theorem hd_X2_noteBegun : yX2_noteBegun.cls = RX2 ∧ yX2_noteBegun.cls ≠ "java/lang/invoke/MethodHandle" ∧ yX2_noteBegun.cls ≠ "java/lang/invoke/VarHandle" ∧ (parseMethodDescriptor yX2_noteBegun.desc).map (fun d => d.parameters.length) = some 0 := by decide +kernel
theorem hd_X8_areTerms : yX8_areTerms.cls = RX8 ∧ yX8_areTerms.cls ≠ "java/lang/invoke/MethodHandle" ∧ yX8_areTerms.cls ≠ "java/lang/invoke/VarHandle" ∧ (parseMethodDescriptor yX8_areTerms.desc).map (fun d => d.parameters.length) = some 5 := by decide +kernel
def f_X8_begins  (v_told_squares : Int32) (v_told_tenants : Int32) (v_now_leases_most : Int32) (v_now_leases_size : Int32) (v_now_leases_parts : (Nat → Int32)) (v_now_past_rows_most : Int32) (v_now_past_rows_size : Int32) (v_now_past_rows_parts : (Nat → Int32)) (v_now_past_places : (Nat → Int32)) (g1 : Int32) (g2 : Int32) (g3 : Int32) (g4 : Int32) (g5 : Int32) : Option (Int32 × Int32 × (Nat → Int32) × Int32 × (Nat → Int32) × (Nat → Int32)) := bd1 (f_X8_areTerms (v_told_squares) (v_told_tenants) (g1) (g2) (g3) (g4) (g5)) fun r10 => if r10 = (0 : Int32) then (some ((-1 : Int32), v_now_leases_size, v_now_leases_parts, v_now_past_rows_size, v_now_past_rows_parts, v_now_past_places)) else (bd1 (f_X6_isFull (v_now_leases_most) (v_now_leases_size)) fun r12 => if r12 = (0 : Int32) then (bd2 (f_X6_add (v_now_leases_most) (v_now_leases_size) (v_now_leases_parts) (g1) (g2) (g3) (g4) (g5)) fun w14 w15 => bd3 (f_X2_noteBegun (v_now_past_rows_most) (v_now_past_rows_size) (v_now_past_rows_parts) (v_now_past_places)) fun w16 w17 w18 => some ((w14 - (1 : Int32)), w14, w15, w16, w17, w18)) else (some ((-3 : Int32), v_now_leases_size, v_now_leases_parts, v_now_past_rows_size, v_now_past_rows_parts, v_now_past_places)))
abbrev rm_X8_begins : Room := { frames := 4, cells := 0, slots := 0, locals := 94 }
set_option maxHeartbeats 4000000 in
set_option maxRecDepth 100000 in
theorem c_X8_begins (l : Launch) (G : zG) (sz : Nat) (a_this : Nat) (a_this_told : Nat) (a_this_now : Nat) (a_this_now_leases : Nat) (a_this_now_leases_parts : Nat) (a_this_now_past : Nat) (a_this_now_past_rows : Nat) (a_this_now_past_rows_parts : Nat) (a_this_now_past_places : Nat) (a_this_text : Nat) (a_this_reader : Nat) (a_this_draft : Nat) (a_this_firstImage : Nat) (a_this_secondImage : Nat) (a_this_kept : Nat) (a_this_offers : Nat) (a_this_seen : Nat) (a_this_rents : Nat) (a_this_told_starts : Nat) (a_this_told_paces : Nat) (a_this_told_brights : Nat) (a_this_told_purses : Nat) (a_this_told_leases : Nat) (a_this_now_purses : Nat) (v_traced : Int64) (v_told_squares : Int32) (v_told_stars : Int32) (v_told_tenants : Int32) (v_now_night : Int32) (v_now_lot : Int32) (v_now_leases_most : Int32) (v_now_leases_size : Int32) (v_now_leases_parts : (Nat → Int32)) (v_now_past_rows_most : Int32) (v_now_past_rows_size : Int32) (v_now_past_rows_parts : (Nat → Int32)) (v_now_past_places : (Nat → Int32)) (g1 : Int32) (g2 : Int32) (g3 : Int32) (g4 : Int32) (g5 : Int32) (R0 : Int32) (R1 : Int32) (R2 : (Nat → Int32)) (R3 : Int32) (R4 : (Nat → Int32)) (R5 : (Nat → Int32)) (hf : f_X8_begins v_told_squares v_told_tenants v_now_leases_most v_now_leases_size v_now_leases_parts v_now_past_rows_most v_now_past_rows_size v_now_past_rows_parts v_now_past_places g1 g2 g3 g4 g5 = some (R0, R1, R2, R3, R4, R5)) : Met l yX8_begins wsX8_begins rm_X8_begins (va_Pc [.ref a_this, .int g1, .int g2, .int g3, .int g4, .int g5] (zB G [(a_this, .inr (8, [.ref a_this_text, .ref a_this_reader, .ref a_this_told, .ref a_this_draft, .ref a_this_now, .ref a_this_firstImage, .ref a_this_secondImage, .ref a_this_kept, .ref a_this_offers, .ref a_this_seen, .ref a_this_rents, .long v_traced])), (a_this_told, .inr (5, [.int v_told_squares, .int v_told_stars, .ref a_this_told_starts, .ref a_this_told_paces, .ref a_this_told_brights, .int v_told_tenants, .ref a_this_told_purses, .ref a_this_told_leases])), (a_this_now, .inr (0, [.int v_now_night, .int v_now_lot, .ref a_this_now_purses, .ref a_this_now_leases, .ref a_this_now_past])), (a_this_now_leases, .inr (6, [.int v_now_leases_most, .ref a_this_now_leases_parts, .int v_now_leases_size])), (a_this_now_leases_parts, .inl (G.2.1, 50, .inl v_now_leases_parts)), (a_this_now_past, .inr (2, [.ref a_this_now_past_rows, .ref a_this_now_past_places])), (a_this_now_past_rows, .inr (6, [.int v_now_past_rows_most, .ref a_this_now_past_rows_parts, .int v_now_past_rows_size])), (a_this_now_past_rows_parts, .inl (G.2.1, 50, .inl v_now_past_rows_parts)), (a_this_now_past_places, .inl (G.2.1, 6, .inl v_now_past_places))] sz)) (zQ G (some (.int R0)) [(a_this, .inr (8, [.ref a_this_text, .ref a_this_reader, .ref a_this_told, .ref a_this_draft, .ref a_this_now, .ref a_this_firstImage, .ref a_this_secondImage, .ref a_this_kept, .ref a_this_offers, .ref a_this_seen, .ref a_this_rents, .long v_traced])), (a_this_told, .inr (5, [.int v_told_squares, .int v_told_stars, .ref a_this_told_starts, .ref a_this_told_paces, .ref a_this_told_brights, .int v_told_tenants, .ref a_this_told_purses, .ref a_this_told_leases])), (a_this_now, .inr (0, [.int v_now_night, .int v_now_lot, .ref a_this_now_purses, .ref a_this_now_leases, .ref a_this_now_past])), (a_this_now_leases, .inr (6, [.int v_now_leases_most, .ref a_this_now_leases_parts, .int R1])), (a_this_now_leases_parts, .inl (G.2.1, 50, .inl R2)), (a_this_now_past, .inr (2, [.ref a_this_now_past_rows, .ref a_this_now_past_places])), (a_this_now_past_rows, .inr (6, [.int v_now_past_rows_most, .ref a_this_now_past_rows_parts, .int R3])), (a_this_now_past_rows_parts, .inl (G.2.1, 50, .inl R4)), (a_this_now_past_places, .inl (G.2.1, 6, .inl R5))] (va_A [(a_this, .inr (8, [.ref a_this_text, .ref a_this_reader, .ref a_this_told, .ref a_this_draft, .ref a_this_now, .ref a_this_firstImage, .ref a_this_secondImage, .ref a_this_kept, .ref a_this_offers, .ref a_this_seen, .ref a_this_rents, .long v_traced])), (a_this_told, .inr (5, [.int v_told_squares, .int v_told_stars, .ref a_this_told_starts, .ref a_this_told_paces, .ref a_this_told_brights, .int v_told_tenants, .ref a_this_told_purses, .ref a_this_told_leases])), (a_this_now, .inr (0, [.int v_now_night, .int v_now_lot, .ref a_this_now_purses, .ref a_this_now_leases, .ref a_this_now_past])), (a_this_now_leases, .inr (6, [.int v_now_leases_most, .ref a_this_now_leases_parts, .int v_now_leases_size])), (a_this_now_leases_parts, .inl (G.2.1, 50, .inl v_now_leases_parts)), (a_this_now_past, .inr (2, [.ref a_this_now_past_rows, .ref a_this_now_past_places])), (a_this_now_past_rows, .inr (6, [.int v_now_past_rows_most, .ref a_this_now_past_rows_parts, .int v_now_past_rows_size])), (a_this_now_past_rows_parts, .inl (G.2.1, 50, .inl v_now_past_rows_parts)), (a_this_now_past_places, .inl (G.2.1, 6, .inl v_now_past_places))] sz)) 0 0 (va_A [(a_this, .inr (8, [.ref a_this_text, .ref a_this_reader, .ref a_this_told, .ref a_this_draft, .ref a_this_now, .ref a_this_firstImage, .ref a_this_secondImage, .ref a_this_kept, .ref a_this_offers, .ref a_this_seen, .ref a_this_rents, .long v_traced])), (a_this_told, .inr (5, [.int v_told_squares, .int v_told_stars, .ref a_this_told_starts, .ref a_this_told_paces, .ref a_this_told_brights, .int v_told_tenants, .ref a_this_told_purses, .ref a_this_told_leases])), (a_this_now, .inr (0, [.int v_now_night, .int v_now_lot, .ref a_this_now_purses, .ref a_this_now_leases, .ref a_this_now_past])), (a_this_now_leases, .inr (6, [.int v_now_leases_most, .ref a_this_now_leases_parts, .int v_now_leases_size])), (a_this_now_leases_parts, .inl (G.2.1, 50, .inl v_now_leases_parts)), (a_this_now_past, .inr (2, [.ref a_this_now_past_rows, .ref a_this_now_past_places])), (a_this_now_past_rows, .inr (6, [.int v_now_past_rows_most, .ref a_this_now_past_rows_parts, .int v_now_past_rows_size])), (a_this_now_past_rows_parts, .inl (G.2.1, 50, .inl v_now_past_rows_parts)), (a_this_now_past_places, .inl (G.2.1, 6, .inl v_now_past_places))] sz) := by
  refine Met.ofW (cc := cX8_begins) (maxL := 6) (ret := (some .int)) (by decide) rfl ?_
  intro p e s m args below meth c s₁ B hml hv
  obtain ⟨hargs, hsz, hP, hD0, hE⟩ := hv
  have hx := B.exec
  have hb := B.bytes
  have hr := B.returns
  have hts := atoms_spec (ws := wsX8_begins) B.pre
  have hown : s.vm.findClass RX8 = some m.cls := findClass_of_methodNamed B.named
  have hlocks := B.notSynchronized
  have hK := hE.1
  have hC : CallFix p m c cX8_begins 6 s args wsX8_begins RX8 := ⟨hx, hb, hml, hown, hts⟩
  have inX0 : ∀ w ∈ wsX00, w ∈ wsX8_begins := by decide +kernel
  have inX6 : ∀ w ∈ wsX60, w ∈ wsX8_begins := by decide +kernel
  have inX8 : ∀ w ∈ wsX80, w ∈ wsX8_begins := by decide +kernel
  have lk36 := hts (.fieldLink RX8 36 "SkyLeases" "now" "LSkyLeases$Now;") (by decide +kernel)
  have lk99 := hts (.fieldLink RX8 99 "SkyLeases$Terms" "size" "I") (by decide +kernel)
  have lk116 := hts (.fieldLink RX8 116 "SkyLeases$Now" "leases" "LSkyLeases$Terms;") (by decide +kernel)
  have lk175 := hts (.fieldLink RX8 175 "SkyLeases$Now" "past" "LSkyLeases$Past;") (by decide +kernel)
  subst hsz
  have hD := hD0.self (sz := s.heap.size)
  generalize hAe : va_A [(a_this, .inr (8, [.ref a_this_text, .ref a_this_reader, .ref a_this_told, .ref a_this_draft, .ref a_this_now, .ref a_this_firstImage, .ref a_this_secondImage, .ref a_this_kept, .ref a_this_offers, .ref a_this_seen, .ref a_this_rents, .long v_traced])), (a_this_told, .inr (5, [.int v_told_squares, .int v_told_stars, .ref a_this_told_starts, .ref a_this_told_paces, .ref a_this_told_brights, .int v_told_tenants, .ref a_this_told_purses, .ref a_this_told_leases])), (a_this_now, .inr (0, [.int v_now_night, .int v_now_lot, .ref a_this_now_purses, .ref a_this_now_leases, .ref a_this_now_past])), (a_this_now_leases, .inr (6, [.int v_now_leases_most, .ref a_this_now_leases_parts, .int v_now_leases_size])), (a_this_now_leases_parts, .inl (G.2.1, 50, .inl v_now_leases_parts)), (a_this_now_past, .inr (2, [.ref a_this_now_past_rows, .ref a_this_now_past_places])), (a_this_now_past_rows, .inr (6, [.int v_now_past_rows_most, .ref a_this_now_past_rows_parts, .int v_now_past_rows_size])), (a_this_now_past_rows_parts, .inl (G.2.1, 50, .inl v_now_past_rows_parts)), (a_this_now_past_places, .inl (G.2.1, 6, .inl v_now_past_places))] s.heap.size = A at hD ⊢
  have hA : ∀ q : Nat, s.heap.size ≤ q → A q := fun q h => by rw [← hAe]; exact Or.inr h
  have hS : va_S A s.heap s.heap [] := va_S.rf
  have hP : va_P G.1 vwCl [(a_this, .inr (8, [.ref a_this_text, .ref a_this_reader, .ref a_this_told, .ref a_this_draft, .ref a_this_now, .ref a_this_firstImage, .ref a_this_secondImage, .ref a_this_kept, .ref a_this_offers, .ref a_this_seen, .ref a_this_rents, .long v_traced])), (a_this_told, .inr (5, [.int v_told_squares, .int v_told_stars, .ref a_this_told_starts, .ref a_this_told_paces, .ref a_this_told_brights, .int v_told_tenants, .ref a_this_told_purses, .ref a_this_told_leases])), (a_this_now, .inr (0, [.int v_now_night, .int v_now_lot, .ref a_this_now_purses, .ref a_this_now_leases, .ref a_this_now_past])), (a_this_now_leases, .inr (6, [.int v_now_leases_most, .ref a_this_now_leases_parts, .int v_now_leases_size])), (a_this_now_leases_parts, .inl (G.2.1, 50, .inl v_now_leases_parts)), (a_this_now_past, .inr (2, [.ref a_this_now_past_rows, .ref a_this_now_past_places])), (a_this_now_past_rows, .inr (6, [.int v_now_past_rows_most, .ref a_this_now_past_rows_parts, .int v_now_past_rows_size])), (a_this_now_past_rows_parts, .inl (G.2.1, 50, .inl v_now_past_rows_parts)), (a_this_now_past_places, .inl (G.2.1, 6, .inl v_now_past_places))] s.heap := hP
  have hl := lv_entry ([.ref a_this, .int g1, .int g2, .int g3, .int g4, .int g5]) (n := 6) (Nat.le_of_ble_eq_true rfl)
  have hent : entryFrame m args 6 = F0 m 0 ((lg_sl ([.ref a_this, .int g1, .int g2, .int g3, .int g4, .int g5]) ++ List.replicate (6 - (lg_sl ([.ref a_this, .int g1, .int g2, .int g3, .int g4, .int g5])).length) Slot.unset).toArray) [] := by rw [hargs]; exact lg_entry_eq m [.ref a_this, .int g1, .int g2, .int g3, .int g4, .int g5] 6
  refine W.eq hent ?_
  clear hent
  generalize (lg_sl ([.ref a_this, .int g1, .int g2, .int g3, .int g4, .int g5]) ++ List.replicate (6 - (lg_sl ([.ref a_this, .int g1, .int g2, .int g3, .int g4, .int g5])).length) Slot.unset).toArray = ls at hl ⊢
  have hl : lv_has ls 6 [(0, .ref a_this), (1, .int g1), (2, .int g2), (3, .int g3), (4, .int g4), (5, .int g5)] := hl
  generalize hQ : MQ below _ args s 0 0 _ = QQ
  change W p l e rm_X8_begins s m args below meth c s.heap [] 0 0 QQ _
  have hSH := hS
  unfold f_X8_begins at hf
  refine lv_aload_n hx hb dX8_begins_0 rfl (lv_at hl 0 rfl) ?_
  refine lv_iload_n hx hb dX8_begins_1 rfl (lv_at hl 1 rfl) ?_
  refine lv_iload_n hx hb dX8_begins_2 rfl (lv_at hl 2 rfl) ?_
  refine lv_iload_n hx hb dX8_begins_3 rfl (lv_at hl 3 rfl) ?_
  refine lv_iload hx hb dX8_begins_4 (lv_at hl 4 rfl) ?_
  refine lv_iload hx hb dX8_begins_6 (lv_at hl 5 rfl) ?_
  obtain ⟨r10, hu, hf⟩ := bd1_some hf
  refine zRi (va_runV (As := [.int g1, .int g2, .int g3, .int g4, .int g5]) (rest := []) hC (c_X8_areTerms l G a_this a_this_told a_this_text a_this_reader a_this_draft a_this_now a_this_firstImage a_this_secondImage a_this_kept a_this_offers a_this_seen a_this_rents a_this_told_starts a_this_told_paces a_this_told_brights a_this_told_purses a_this_told_leases (v_traced) (v_told_squares) (v_told_stars) (v_told_tenants) (g1) (g2) (g3) (g4) (g5) r10 hu) (cwV 5 hts gX8_begins_X8_areTerms rfl rfl rfl hd_X8_areTerms ⟨(Nat.le_of_ble_eq_true rfl), (Nat.le_of_ble_eq_true rfl)⟩) (zPV hE hP [0, 1] rfl 0 rfl rfl) rfl rfl hl.1 rfl (lv_room (Nat.le_of_ble_eq_true rfl)) dX8_begins_8 ⟨Nat.zero_le _, Nat.zero_le _⟩) ?_
  refine lv_if_ne (tgt := 16) hx hb dX8_begins_11 (by decide) (fun hc11 => ?_) (fun hc11 => ?_)
  · have hf := if_f hf hc11
    refine lv_aload_n hx hb dX8_begins_16 rfl (lv_at hl 0 rfl) ?_
    refine va_get (D := G.1) (ci := 8) (v := .ref a_this_now) (C := RX8) (T := TX8) (N := 12) hx hb hts inX8 hown hK hP 0 rfl rfl 4 (by decide) lk36 (fun _ h9 => h9) rfl dX8_begins_17 ?_
    refine va_get (D := G.1) (ci := 0) (v := .ref a_this_now_leases) (C := RX0) (T := TX0) (N := 5) hx hb hts inX0 hown hK hP 2 rfl rfl 3 (by decide) lk116 (fun _ h9 => h9) rfl dX8_begins_20 ?_
    obtain ⟨r12, hu, hf⟩ := bd1_some hf
    refine zRi (va_runV (As := []) (rest := []) hC (c_X6_isFull l G a_this_now_leases a_this_now_leases_parts (v_now_leases_most) (v_now_leases_size) r12 hu) (cwV 0 hts gX8_begins_X6_isFull rfl rfl rfl hd_X6_isFull ⟨(Nat.le_of_ble_eq_true rfl), (Nat.le_of_ble_eq_true rfl)⟩) (zPV hE hP [3] rfl 3 rfl rfl) rfl rfl hl.1 rfl (lv_room (Nat.le_of_ble_eq_true rfl)) dX8_begins_23 ⟨Nat.zero_le _, Nat.zero_le _⟩) ?_
    refine lv_if_eq (tgt := 32) hx hb dX8_begins_26 (by decide) (fun hc13 => ?_) (fun hc13 => ?_)
    · have hf := if_t hf hc13
      refine lv_aload_n hx hb dX8_begins_32 rfl (lv_at hl 0 rfl) ?_
      refine va_get (D := G.1) (ci := 8) (v := .ref a_this_now) (C := RX8) (T := TX8) (N := 12) hx hb hts inX8 hown hK hP 0 rfl rfl 4 (by decide) lk36 (fun _ h9 => h9) rfl dX8_begins_33 ?_
      refine va_get (D := G.1) (ci := 0) (v := .ref a_this_now_leases) (C := RX0) (T := TX0) (N := 5) hx hb hts inX0 hown hK hP 2 rfl rfl 3 (by decide) lk116 (fun _ h9 => h9) rfl dX8_begins_36 ?_
      refine lv_iload_n hx hb dX8_begins_39 rfl (lv_at hl 1 rfl) ?_
      refine lv_iload_n hx hb dX8_begins_40 rfl (lv_at hl 2 rfl) ?_
      refine lv_iload_n hx hb dX8_begins_41 rfl (lv_at hl 3 rfl) ?_
      refine lv_iload hx hb dX8_begins_42 (lv_at hl 4 rfl) ?_
      refine lv_iload hx hb dX8_begins_44 (lv_at hl 5 rfl) ?_
      obtain ⟨w14, w15, hu, hf⟩ := bd2_some hf
      refine zWn (wr := [(a_this, .inr (8, [.ref a_this_text, .ref a_this_reader, .ref a_this_told, .ref a_this_draft, .ref a_this_now, .ref a_this_firstImage, .ref a_this_secondImage, .ref a_this_kept, .ref a_this_offers, .ref a_this_seen, .ref a_this_rents, .long v_traced])), (a_this_told, .inr (5, [.int v_told_squares, .int v_told_stars, .ref a_this_told_starts, .ref a_this_told_paces, .ref a_this_told_brights, .int v_told_tenants, .ref a_this_told_purses, .ref a_this_told_leases])), (a_this_now, .inr (0, [.int v_now_night, .int v_now_lot, .ref a_this_now_purses, .ref a_this_now_leases, .ref a_this_now_past])), (a_this_now_past, .inr (2, [.ref a_this_now_past_rows, .ref a_this_now_past_places])), (a_this_now_past_rows, .inr (6, [.int v_now_past_rows_most, .ref a_this_now_past_rows_parts, .int v_now_past_rows_size])), (a_this_now_past_rows_parts, .inl (G.2.1, 50, .inl v_now_past_rows_parts)), (a_this_now_past_places, .inl (G.2.1, 6, .inl v_now_past_places))]) (ws2 := [(a_this, .inr (8, [.ref a_this_text, .ref a_this_reader, .ref a_this_told, .ref a_this_draft, .ref a_this_now, .ref a_this_firstImage, .ref a_this_secondImage, .ref a_this_kept, .ref a_this_offers, .ref a_this_seen, .ref a_this_rents, .long v_traced])), (a_this_told, .inr (5, [.int v_told_squares, .int v_told_stars, .ref a_this_told_starts, .ref a_this_told_paces, .ref a_this_told_brights, .int v_told_tenants, .ref a_this_told_purses, .ref a_this_told_leases])), (a_this_now, .inr (0, [.int v_now_night, .int v_now_lot, .ref a_this_now_purses, .ref a_this_now_leases, .ref a_this_now_past])), (a_this_now_leases, .inr (6, [.int v_now_leases_most, .ref a_this_now_leases_parts, .int w14])), (a_this_now_leases_parts, .inl (G.2.1, 50, .inl w15)), (a_this_now_past, .inr (2, [.ref a_this_now_past_rows, .ref a_this_now_past_places])), (a_this_now_past_rows, .inr (6, [.int v_now_past_rows_most, .ref a_this_now_past_rows_parts, .int v_now_past_rows_size])), (a_this_now_past_rows_parts, .inl (G.2.1, 50, .inl v_now_past_rows_parts)), (a_this_now_past_places, .inl (G.2.1, 6, .inl v_now_past_places))]) (va_runV (As := [.int g1, .int g2, .int g3, .int g4, .int g5]) (rest := []) hC (c_X6_add l G _ a_this_now_leases a_this_now_leases_parts (v_now_leases_most) (v_now_leases_size) (v_now_leases_parts) (g1) (g2) (g3) (g4) (g5) w14 w15 hu) (cwV 5 hts gX8_begins_X6_add rfl rfl rfl hd_X6_add ⟨(Nat.le_of_ble_eq_true rfl), (Nat.le_of_ble_eq_true rfl)⟩) (zPVw hE hP hD [3, 4] rfl rfl 3 rfl rfl) rfl rfl hl.1 rfl (lv_room (Nat.le_of_ble_eq_true rfl)) dX8_begins_46 ⟨Nat.zero_le _, Nat.zero_le _⟩) hP hD hS hA [3, 4] [0, 1, 2, 5, 6, 7, 8] [0, 1, 2, 7, 8, 3, 4, 5, 6] rfl rfl rfl rfl (by decide) rfl rfl rfl (fun H locs hP hD hS => ?_)
      refine lv_aload_n hx hb dX8_begins_49 rfl (lv_at hl 0 rfl) ?_
      refine va_get (D := G.1) (ci := 8) (v := .ref a_this_now) (C := RX8) (T := TX8) (N := 12) hx hb hts inX8 hown hK hP 0 rfl rfl 4 (by decide) lk36 (fun _ h9 => h9) rfl dX8_begins_50 ?_
      refine va_get (D := G.1) (ci := 0) (v := .ref a_this_now_past) (C := RX0) (T := TX0) (N := 5) hx hb hts inX0 hown hK hP 2 rfl rfl 4 (by decide) lk175 (fun _ h9 => h9) rfl dX8_begins_53 ?_
      obtain ⟨w16, w17, w18, hu, hf⟩ := bd3_some hf
      refine zWn (wr := [(a_this, .inr (8, [.ref a_this_text, .ref a_this_reader, .ref a_this_told, .ref a_this_draft, .ref a_this_now, .ref a_this_firstImage, .ref a_this_secondImage, .ref a_this_kept, .ref a_this_offers, .ref a_this_seen, .ref a_this_rents, .long v_traced])), (a_this_told, .inr (5, [.int v_told_squares, .int v_told_stars, .ref a_this_told_starts, .ref a_this_told_paces, .ref a_this_told_brights, .int v_told_tenants, .ref a_this_told_purses, .ref a_this_told_leases])), (a_this_now, .inr (0, [.int v_now_night, .int v_now_lot, .ref a_this_now_purses, .ref a_this_now_leases, .ref a_this_now_past])), (a_this_now_leases, .inr (6, [.int v_now_leases_most, .ref a_this_now_leases_parts, .int w14])), (a_this_now_leases_parts, .inl (G.2.1, 50, .inl w15))]) (ws2 := [(a_this, .inr (8, [.ref a_this_text, .ref a_this_reader, .ref a_this_told, .ref a_this_draft, .ref a_this_now, .ref a_this_firstImage, .ref a_this_secondImage, .ref a_this_kept, .ref a_this_offers, .ref a_this_seen, .ref a_this_rents, .long v_traced])), (a_this_told, .inr (5, [.int v_told_squares, .int v_told_stars, .ref a_this_told_starts, .ref a_this_told_paces, .ref a_this_told_brights, .int v_told_tenants, .ref a_this_told_purses, .ref a_this_told_leases])), (a_this_now, .inr (0, [.int v_now_night, .int v_now_lot, .ref a_this_now_purses, .ref a_this_now_leases, .ref a_this_now_past])), (a_this_now_leases, .inr (6, [.int v_now_leases_most, .ref a_this_now_leases_parts, .int w14])), (a_this_now_leases_parts, .inl (G.2.1, 50, .inl w15)), (a_this_now_past, .inr (2, [.ref a_this_now_past_rows, .ref a_this_now_past_places])), (a_this_now_past_rows, .inr (6, [.int v_now_past_rows_most, .ref a_this_now_past_rows_parts, .int w16])), (a_this_now_past_rows_parts, .inl (G.2.1, 50, .inl w17)), (a_this_now_past_places, .inl (G.2.1, 6, .inl w18))]) (va_runV (As := []) (rest := []) hC (c_X2_noteBegun l G _ a_this_now_past a_this_now_past_rows a_this_now_past_rows_parts a_this_now_past_places (v_now_past_rows_most) (v_now_past_rows_size) (v_now_past_rows_parts) (v_now_past_places) w16 w17 w18 hu) (cwV 0 hts gX8_begins_X2_noteBegun rfl rfl rfl hd_X2_noteBegun ⟨(Nat.le_of_ble_eq_true rfl), (Nat.le_of_ble_eq_true rfl)⟩) (zPVw hE hP hD [5, 6, 7, 8] rfl rfl 5 rfl rfl) rfl rfl hl.1 rfl (lv_room (Nat.le_of_ble_eq_true rfl)) dX8_begins_56 ⟨Nat.zero_le _, Nat.zero_le _⟩) hP hD hS hA [5, 6, 7, 8] [0, 1, 2, 3, 4] [0, 1, 2, 3, 4, 5, 6, 7, 8] rfl rfl rfl rfl (by decide) rfl rfl rfl (fun H locs hP hD hS => ?_)
      refine lv_aload_n hx hb dX8_begins_59 rfl (lv_at hl 0 rfl) ?_
      refine va_get (D := G.1) (ci := 8) (v := .ref a_this_now) (C := RX8) (T := TX8) (N := 12) hx hb hts inX8 hown hK hP 0 rfl rfl 4 (by decide) lk36 (fun _ h9 => h9) rfl dX8_begins_60 ?_
      refine va_get (D := G.1) (ci := 0) (v := .ref a_this_now_leases) (C := RX0) (T := TX0) (N := 5) hx hb hts inX0 hown hK hP 2 rfl rfl 3 (by decide) lk116 (fun _ h9 => h9) rfl dX8_begins_63 ?_
      refine va_get (D := G.1) (ci := 6) (v := .int w14) (C := RX6) (T := TX6) (N := 3) hx hb hts inX6 hown hK hP 3 rfl rfl 2 (by decide) lk99 (fun _ h9 => h9) rfl dX8_begins_66 ?_
      refine lv_iconst (v := (1 : Int32)) hx hb dX8_begins_69 (by decide) ?_
      refine lv_isub hx hb dX8_begins_70 ?_
      obtain ⟨hr0, hr1, hr2, hr3, hr4, hr5⟩ := so6 hf
      subst hr0
      subst hr1
      subst hr2
      subst hr3
      subst hr4
      subst hr5
      rw [← hQ]
      exact W.iret (v := (w14 - (1 : Int32))) hx hb hr (fun t ht hW => ⟨⟨rfl, by rw [ht]; exact hP⟩, hS.F ht⟩) hS.2.2 dX8_begins_71
    · have hf := if_f hf hc13
      refine lv_bipush (v := (-3 : Int32)) hx hb dX8_begins_29 (by decide) ?_
      obtain ⟨hr0, hr1, hr2, hr3, hr4, hr5⟩ := so6 hf
      subst hr0
      subst hr1
      subst hr2
      subst hr3
      subst hr4
      subst hr5
      rw [← hQ]
      exact W.iret (v := (-3 : Int32)) hx hb hr (fun t ht hW => ⟨⟨rfl, by rw [ht]; exact hP⟩, hS.F ht⟩) hS.2.2 dX8_begins_31
  · have hf := if_t hf hc11
    refine lv_iconst (v := (-1 : Int32)) hx hb dX8_begins_14 (by decide) ?_
    obtain ⟨hr0, hr1, hr2, hr3, hr4, hr5⟩ := so6 hf
    subst hr0
    subst hr1
    subst hr2
    subst hr3
    subst hr4
    subst hr5
    rw [← hQ]
    exact W.iret (v := (-1 : Int32)) hx hb hr (fun t ht hW => ⟨⟨rfl, by rw [ht]; exact hP⟩, hS.F ht⟩) hS.2.2 dX8_begins_15
theorem hd_X2_noteEnded : yX2_noteEnded.cls = RX2 ∧ yX2_noteEnded.cls ≠ "java/lang/invoke/MethodHandle" ∧ yX2_noteEnded.cls ≠ "java/lang/invoke/VarHandle" ∧ (parseMethodDescriptor yX2_noteEnded.desc).map (fun d => d.parameters.length) = some 2 := by decide +kernel
def f_X8_ends  (v_now_leases_size : Int32) (v_now_past_rows_most : Int32) (v_now_past_rows_size : Int32) (v_now_past_rows_parts : (Nat → Int32)) (v_now_past_places : (Nat → Int32)) (v_now_leases_parts : (Nat → Int32)) (g1 : Int32) : Option (Int32 × Int32 × Int32 × (Nat → Int32) × (Nat → Int32) × (Nat → Int32)) := bd1 (f_X6_has (v_now_leases_size) (g1)) fun r8 => if r8 = (0 : Int32) then (some ((-1 : Int32), v_now_leases_size, v_now_past_rows_size, v_now_past_rows_parts, v_now_past_places, v_now_leases_parts)) else (bd3 (f_X2_noteEnded (v_now_leases_size) (v_now_past_rows_most) (v_now_past_rows_size) (v_now_past_rows_parts) (v_now_past_places) (v_now_leases_parts) (g1)) fun w10 w11 w12 => bd2 (f_X6_removeAt (v_now_leases_size) (v_now_leases_parts) (g1)) fun w13 w14 => some (w13, w13, w10, w11, w12, w14))
abbrev rm_X8_ends : Room := { frames := 4, cells := 0, slots := 0, locals := 96 }
set_option maxHeartbeats 4000000 in
set_option maxRecDepth 100000 in
theorem c_X8_ends (l : Launch) (G : zG) (sz : Nat) (a_this : Nat) (a_this_now : Nat) (a_this_now_leases : Nat) (a_this_now_past : Nat) (a_this_now_past_rows : Nat) (a_this_now_past_rows_parts : Nat) (a_this_now_past_places : Nat) (a_this_now_leases_parts : Nat) (a_this_text : Nat) (a_this_reader : Nat) (a_this_told : Nat) (a_this_draft : Nat) (a_this_firstImage : Nat) (a_this_secondImage : Nat) (a_this_kept : Nat) (a_this_offers : Nat) (a_this_seen : Nat) (a_this_rents : Nat) (a_this_now_purses : Nat) (v_traced : Int64) (v_now_night : Int32) (v_now_lot : Int32) (v_now_leases_most : Int32) (v_now_leases_size : Int32) (v_now_past_rows_most : Int32) (v_now_past_rows_size : Int32) (v_now_past_rows_parts : (Nat → Int32)) (v_now_past_places : (Nat → Int32)) (v_now_leases_parts : (Nat → Int32)) (g1 : Int32) (R0 : Int32) (R1 : Int32) (R2 : Int32) (R3 : (Nat → Int32)) (R4 : (Nat → Int32)) (R5 : (Nat → Int32)) (hf : f_X8_ends v_now_leases_size v_now_past_rows_most v_now_past_rows_size v_now_past_rows_parts v_now_past_places v_now_leases_parts g1 = some (R0, R1, R2, R3, R4, R5)) : Met l yX8_ends wsX8_ends rm_X8_ends (va_Pc [.ref a_this, .int g1] (zB G [(a_this, .inr (8, [.ref a_this_text, .ref a_this_reader, .ref a_this_told, .ref a_this_draft, .ref a_this_now, .ref a_this_firstImage, .ref a_this_secondImage, .ref a_this_kept, .ref a_this_offers, .ref a_this_seen, .ref a_this_rents, .long v_traced])), (a_this_now, .inr (0, [.int v_now_night, .int v_now_lot, .ref a_this_now_purses, .ref a_this_now_leases, .ref a_this_now_past])), (a_this_now_leases, .inr (6, [.int v_now_leases_most, .ref a_this_now_leases_parts, .int v_now_leases_size])), (a_this_now_past, .inr (2, [.ref a_this_now_past_rows, .ref a_this_now_past_places])), (a_this_now_past_rows, .inr (6, [.int v_now_past_rows_most, .ref a_this_now_past_rows_parts, .int v_now_past_rows_size])), (a_this_now_past_rows_parts, .inl (G.2.1, 50, .inl v_now_past_rows_parts)), (a_this_now_past_places, .inl (G.2.1, 6, .inl v_now_past_places)), (a_this_now_leases_parts, .inl (G.2.1, 50, .inl v_now_leases_parts))] sz)) (zQ G (some (.int R0)) [(a_this, .inr (8, [.ref a_this_text, .ref a_this_reader, .ref a_this_told, .ref a_this_draft, .ref a_this_now, .ref a_this_firstImage, .ref a_this_secondImage, .ref a_this_kept, .ref a_this_offers, .ref a_this_seen, .ref a_this_rents, .long v_traced])), (a_this_now, .inr (0, [.int v_now_night, .int v_now_lot, .ref a_this_now_purses, .ref a_this_now_leases, .ref a_this_now_past])), (a_this_now_leases, .inr (6, [.int v_now_leases_most, .ref a_this_now_leases_parts, .int R1])), (a_this_now_past, .inr (2, [.ref a_this_now_past_rows, .ref a_this_now_past_places])), (a_this_now_past_rows, .inr (6, [.int v_now_past_rows_most, .ref a_this_now_past_rows_parts, .int R2])), (a_this_now_past_rows_parts, .inl (G.2.1, 50, .inl R3)), (a_this_now_past_places, .inl (G.2.1, 6, .inl R4)), (a_this_now_leases_parts, .inl (G.2.1, 50, .inl R5))] (va_A [(a_this, .inr (8, [.ref a_this_text, .ref a_this_reader, .ref a_this_told, .ref a_this_draft, .ref a_this_now, .ref a_this_firstImage, .ref a_this_secondImage, .ref a_this_kept, .ref a_this_offers, .ref a_this_seen, .ref a_this_rents, .long v_traced])), (a_this_now, .inr (0, [.int v_now_night, .int v_now_lot, .ref a_this_now_purses, .ref a_this_now_leases, .ref a_this_now_past])), (a_this_now_leases, .inr (6, [.int v_now_leases_most, .ref a_this_now_leases_parts, .int v_now_leases_size])), (a_this_now_past, .inr (2, [.ref a_this_now_past_rows, .ref a_this_now_past_places])), (a_this_now_past_rows, .inr (6, [.int v_now_past_rows_most, .ref a_this_now_past_rows_parts, .int v_now_past_rows_size])), (a_this_now_past_rows_parts, .inl (G.2.1, 50, .inl v_now_past_rows_parts)), (a_this_now_past_places, .inl (G.2.1, 6, .inl v_now_past_places)), (a_this_now_leases_parts, .inl (G.2.1, 50, .inl v_now_leases_parts))] sz)) 0 0 (va_A [(a_this, .inr (8, [.ref a_this_text, .ref a_this_reader, .ref a_this_told, .ref a_this_draft, .ref a_this_now, .ref a_this_firstImage, .ref a_this_secondImage, .ref a_this_kept, .ref a_this_offers, .ref a_this_seen, .ref a_this_rents, .long v_traced])), (a_this_now, .inr (0, [.int v_now_night, .int v_now_lot, .ref a_this_now_purses, .ref a_this_now_leases, .ref a_this_now_past])), (a_this_now_leases, .inr (6, [.int v_now_leases_most, .ref a_this_now_leases_parts, .int v_now_leases_size])), (a_this_now_past, .inr (2, [.ref a_this_now_past_rows, .ref a_this_now_past_places])), (a_this_now_past_rows, .inr (6, [.int v_now_past_rows_most, .ref a_this_now_past_rows_parts, .int v_now_past_rows_size])), (a_this_now_past_rows_parts, .inl (G.2.1, 50, .inl v_now_past_rows_parts)), (a_this_now_past_places, .inl (G.2.1, 6, .inl v_now_past_places)), (a_this_now_leases_parts, .inl (G.2.1, 50, .inl v_now_leases_parts))] sz) := by
  refine Met.ofW (cc := cX8_ends) (maxL := 2) (ret := (some .int)) (by decide) rfl ?_
  intro p e s m args below meth c s₁ B hml hv
  obtain ⟨hargs, hsz, hP, hD0, hE⟩ := hv
  have hx := B.exec
  have hb := B.bytes
  have hr := B.returns
  have hts := atoms_spec (ws := wsX8_ends) B.pre
  have hown : s.vm.findClass RX8 = some m.cls := findClass_of_methodNamed B.named
  have hlocks := B.notSynchronized
  have hK := hE.1
  have hC : CallFix p m c cX8_ends 2 s args wsX8_ends RX8 := ⟨hx, hb, hml, hown, hts⟩
  have inX0 : ∀ w ∈ wsX00, w ∈ wsX8_ends := by decide +kernel
  have inX6 : ∀ w ∈ wsX60, w ∈ wsX8_ends := by decide +kernel
  have inX8 : ∀ w ∈ wsX80, w ∈ wsX8_ends := by decide +kernel
  have lk36 := hts (.fieldLink RX8 36 "SkyLeases" "now" "LSkyLeases$Now;") (by decide +kernel)
  have lk99 := hts (.fieldLink RX8 99 "SkyLeases$Terms" "size" "I") (by decide +kernel)
  have lk116 := hts (.fieldLink RX8 116 "SkyLeases$Now" "leases" "LSkyLeases$Terms;") (by decide +kernel)
  have lk175 := hts (.fieldLink RX8 175 "SkyLeases$Now" "past" "LSkyLeases$Past;") (by decide +kernel)
  subst hsz
  have hD := hD0.self (sz := s.heap.size)
  generalize hAe : va_A [(a_this, .inr (8, [.ref a_this_text, .ref a_this_reader, .ref a_this_told, .ref a_this_draft, .ref a_this_now, .ref a_this_firstImage, .ref a_this_secondImage, .ref a_this_kept, .ref a_this_offers, .ref a_this_seen, .ref a_this_rents, .long v_traced])), (a_this_now, .inr (0, [.int v_now_night, .int v_now_lot, .ref a_this_now_purses, .ref a_this_now_leases, .ref a_this_now_past])), (a_this_now_leases, .inr (6, [.int v_now_leases_most, .ref a_this_now_leases_parts, .int v_now_leases_size])), (a_this_now_past, .inr (2, [.ref a_this_now_past_rows, .ref a_this_now_past_places])), (a_this_now_past_rows, .inr (6, [.int v_now_past_rows_most, .ref a_this_now_past_rows_parts, .int v_now_past_rows_size])), (a_this_now_past_rows_parts, .inl (G.2.1, 50, .inl v_now_past_rows_parts)), (a_this_now_past_places, .inl (G.2.1, 6, .inl v_now_past_places)), (a_this_now_leases_parts, .inl (G.2.1, 50, .inl v_now_leases_parts))] s.heap.size = A at hD ⊢
  have hA : ∀ q : Nat, s.heap.size ≤ q → A q := fun q h => by rw [← hAe]; exact Or.inr h
  have hS : va_S A s.heap s.heap [] := va_S.rf
  have hP : va_P G.1 vwCl [(a_this, .inr (8, [.ref a_this_text, .ref a_this_reader, .ref a_this_told, .ref a_this_draft, .ref a_this_now, .ref a_this_firstImage, .ref a_this_secondImage, .ref a_this_kept, .ref a_this_offers, .ref a_this_seen, .ref a_this_rents, .long v_traced])), (a_this_now, .inr (0, [.int v_now_night, .int v_now_lot, .ref a_this_now_purses, .ref a_this_now_leases, .ref a_this_now_past])), (a_this_now_leases, .inr (6, [.int v_now_leases_most, .ref a_this_now_leases_parts, .int v_now_leases_size])), (a_this_now_past, .inr (2, [.ref a_this_now_past_rows, .ref a_this_now_past_places])), (a_this_now_past_rows, .inr (6, [.int v_now_past_rows_most, .ref a_this_now_past_rows_parts, .int v_now_past_rows_size])), (a_this_now_past_rows_parts, .inl (G.2.1, 50, .inl v_now_past_rows_parts)), (a_this_now_past_places, .inl (G.2.1, 6, .inl v_now_past_places)), (a_this_now_leases_parts, .inl (G.2.1, 50, .inl v_now_leases_parts))] s.heap := hP
  have hl := lv_entry ([.ref a_this, .int g1]) (n := 2) (Nat.le_of_ble_eq_true rfl)
  have hent : entryFrame m args 2 = F0 m 0 ((lg_sl ([.ref a_this, .int g1]) ++ List.replicate (2 - (lg_sl ([.ref a_this, .int g1])).length) Slot.unset).toArray) [] := by rw [hargs]; exact lg_entry_eq m [.ref a_this, .int g1] 2
  refine W.eq hent ?_
  clear hent
  generalize (lg_sl ([.ref a_this, .int g1]) ++ List.replicate (2 - (lg_sl ([.ref a_this, .int g1])).length) Slot.unset).toArray = ls at hl ⊢
  have hl : lv_has ls 2 [(0, .ref a_this), (1, .int g1)] := hl
  generalize hQ : MQ below _ args s 0 0 _ = QQ
  change W p l e rm_X8_ends s m args below meth c s.heap [] 0 0 QQ _
  have hSH := hS
  unfold f_X8_ends at hf
  refine lv_aload_n hx hb dX8_ends_0 rfl (lv_at hl 0 rfl) ?_
  refine va_get (D := G.1) (ci := 8) (v := .ref a_this_now) (C := RX8) (T := TX8) (N := 12) hx hb hts inX8 hown hK hP 0 rfl rfl 4 (by decide) lk36 (fun _ h9 => h9) rfl dX8_ends_1 ?_
  refine va_get (D := G.1) (ci := 0) (v := .ref a_this_now_leases) (C := RX0) (T := TX0) (N := 5) hx hb hts inX0 hown hK hP 1 rfl rfl 3 (by decide) lk116 (fun _ h9 => h9) rfl dX8_ends_4 ?_
  refine lv_iload_n hx hb dX8_ends_7 rfl (lv_at hl 1 rfl) ?_
  obtain ⟨r8, hu, hf⟩ := bd1_some hf
  refine zRi (va_runV (As := [.int g1]) (rest := []) hC (c_X6_has l G a_this_now_leases a_this_now_leases_parts (v_now_leases_most) (v_now_leases_size) (g1) r8 hu) (cwV 1 hts gX8_ends_X6_has rfl rfl rfl hd_X6_has ⟨(Nat.le_of_ble_eq_true rfl), (Nat.le_of_ble_eq_true rfl)⟩) (zPV hE hP [2] rfl 2 rfl rfl) rfl rfl hl.1 rfl (lv_room (Nat.le_of_ble_eq_true rfl)) dX8_ends_8 ⟨Nat.zero_le _, Nat.zero_le _⟩) ?_
  refine lv_if_ne (tgt := 16) hx hb dX8_ends_11 (by decide) (fun hc9 => ?_) (fun hc9 => ?_)
  · have hf := if_f hf hc9
    refine lv_aload_n hx hb dX8_ends_16 rfl (lv_at hl 0 rfl) ?_
    refine va_get (D := G.1) (ci := 8) (v := .ref a_this_now) (C := RX8) (T := TX8) (N := 12) hx hb hts inX8 hown hK hP 0 rfl rfl 4 (by decide) lk36 (fun _ h9 => h9) rfl dX8_ends_17 ?_
    refine va_get (D := G.1) (ci := 0) (v := .ref a_this_now_past) (C := RX0) (T := TX0) (N := 5) hx hb hts inX0 hown hK hP 1 rfl rfl 4 (by decide) lk175 (fun _ h9 => h9) rfl dX8_ends_20 ?_
    refine lv_aload_n hx hb dX8_ends_23 rfl (lv_at hl 0 rfl) ?_
    refine va_get (D := G.1) (ci := 8) (v := .ref a_this_now) (C := RX8) (T := TX8) (N := 12) hx hb hts inX8 hown hK hP 0 rfl rfl 4 (by decide) lk36 (fun _ h9 => h9) rfl dX8_ends_24 ?_
    refine va_get (D := G.1) (ci := 0) (v := .ref a_this_now_leases) (C := RX0) (T := TX0) (N := 5) hx hb hts inX0 hown hK hP 1 rfl rfl 3 (by decide) lk116 (fun _ h9 => h9) rfl dX8_ends_27 ?_
    refine lv_iload_n hx hb dX8_ends_30 rfl (lv_at hl 1 rfl) ?_
    obtain ⟨w10, w11, w12, hu, hf⟩ := bd3_some hf
    refine zWn (wr := [(a_this, .inr (8, [.ref a_this_text, .ref a_this_reader, .ref a_this_told, .ref a_this_draft, .ref a_this_now, .ref a_this_firstImage, .ref a_this_secondImage, .ref a_this_kept, .ref a_this_offers, .ref a_this_seen, .ref a_this_rents, .long v_traced])), (a_this_now, .inr (0, [.int v_now_night, .int v_now_lot, .ref a_this_now_purses, .ref a_this_now_leases, .ref a_this_now_past]))]) (ws2 := [(a_this, .inr (8, [.ref a_this_text, .ref a_this_reader, .ref a_this_told, .ref a_this_draft, .ref a_this_now, .ref a_this_firstImage, .ref a_this_secondImage, .ref a_this_kept, .ref a_this_offers, .ref a_this_seen, .ref a_this_rents, .long v_traced])), (a_this_now, .inr (0, [.int v_now_night, .int v_now_lot, .ref a_this_now_purses, .ref a_this_now_leases, .ref a_this_now_past])), (a_this_now_leases, .inr (6, [.int v_now_leases_most, .ref a_this_now_leases_parts, .int v_now_leases_size])), (a_this_now_past, .inr (2, [.ref a_this_now_past_rows, .ref a_this_now_past_places])), (a_this_now_past_rows, .inr (6, [.int v_now_past_rows_most, .ref a_this_now_past_rows_parts, .int w10])), (a_this_now_past_rows_parts, .inl (G.2.1, 50, .inl w11)), (a_this_now_past_places, .inl (G.2.1, 6, .inl w12)), (a_this_now_leases_parts, .inl (G.2.1, 50, .inl v_now_leases_parts))]) (va_runV (As := [.ref a_this_now_leases, .int g1]) (rest := []) hC (c_X2_noteEnded l G _ a_this_now_past a_this_now_leases a_this_now_past_rows a_this_now_past_rows_parts a_this_now_past_places a_this_now_leases_parts (v_now_leases_most) (v_now_leases_size) (v_now_past_rows_most) (v_now_past_rows_size) (v_now_past_rows_parts) (v_now_past_places) (v_now_leases_parts) (g1) w10 w11 w12 hu) (cwV 2 hts gX8_ends_X2_noteEnded rfl rfl rfl hd_X2_noteEnded ⟨(Nat.le_of_ble_eq_true rfl), (Nat.le_of_ble_eq_true rfl)⟩) (zPVw hE hP hD [3, 2, 4, 5, 6, 7] rfl rfl 3 rfl rfl) rfl rfl hl.1 rfl (lv_room (Nat.le_of_ble_eq_true rfl)) dX8_ends_31 ⟨Nat.zero_le _, Nat.zero_le _⟩) hP hD hS hA [3, 2, 4, 5, 6, 7] [0, 1] [0, 1, 3, 2, 4, 5, 6, 7] rfl rfl rfl rfl (by decide) rfl rfl rfl (fun H locs hP hD hS => ?_)
    refine lv_aload_n hx hb dX8_ends_34 rfl (lv_at hl 0 rfl) ?_
    refine va_get (D := G.1) (ci := 8) (v := .ref a_this_now) (C := RX8) (T := TX8) (N := 12) hx hb hts inX8 hown hK hP 0 rfl rfl 4 (by decide) lk36 (fun _ h9 => h9) rfl dX8_ends_35 ?_
    refine va_get (D := G.1) (ci := 0) (v := .ref a_this_now_leases) (C := RX0) (T := TX0) (N := 5) hx hb hts inX0 hown hK hP 1 rfl rfl 3 (by decide) lk116 (fun _ h9 => h9) rfl dX8_ends_38 ?_
    refine lv_iload_n hx hb dX8_ends_41 rfl (lv_at hl 1 rfl) ?_
    obtain ⟨w13, w14, hu, hf⟩ := bd2_some hf
    refine zWn (wr := [(a_this, .inr (8, [.ref a_this_text, .ref a_this_reader, .ref a_this_told, .ref a_this_draft, .ref a_this_now, .ref a_this_firstImage, .ref a_this_secondImage, .ref a_this_kept, .ref a_this_offers, .ref a_this_seen, .ref a_this_rents, .long v_traced])), (a_this_now, .inr (0, [.int v_now_night, .int v_now_lot, .ref a_this_now_purses, .ref a_this_now_leases, .ref a_this_now_past])), (a_this_now_past, .inr (2, [.ref a_this_now_past_rows, .ref a_this_now_past_places])), (a_this_now_past_rows, .inr (6, [.int v_now_past_rows_most, .ref a_this_now_past_rows_parts, .int w10])), (a_this_now_past_rows_parts, .inl (G.2.1, 50, .inl w11)), (a_this_now_past_places, .inl (G.2.1, 6, .inl w12))]) (ws2 := [(a_this, .inr (8, [.ref a_this_text, .ref a_this_reader, .ref a_this_told, .ref a_this_draft, .ref a_this_now, .ref a_this_firstImage, .ref a_this_secondImage, .ref a_this_kept, .ref a_this_offers, .ref a_this_seen, .ref a_this_rents, .long v_traced])), (a_this_now, .inr (0, [.int v_now_night, .int v_now_lot, .ref a_this_now_purses, .ref a_this_now_leases, .ref a_this_now_past])), (a_this_now_leases, .inr (6, [.int v_now_leases_most, .ref a_this_now_leases_parts, .int w13])), (a_this_now_past, .inr (2, [.ref a_this_now_past_rows, .ref a_this_now_past_places])), (a_this_now_past_rows, .inr (6, [.int v_now_past_rows_most, .ref a_this_now_past_rows_parts, .int w10])), (a_this_now_past_rows_parts, .inl (G.2.1, 50, .inl w11)), (a_this_now_past_places, .inl (G.2.1, 6, .inl w12)), (a_this_now_leases_parts, .inl (G.2.1, 50, .inl w14))]) (va_runV (As := [.int g1]) (rest := []) hC (c_X6_removeAt l G _ a_this_now_leases a_this_now_leases_parts (v_now_leases_most) (v_now_leases_size) (v_now_leases_parts) (g1) w13 w14 hu) (cwV 1 hts gX8_ends_X6_removeAt rfl rfl rfl hd_X6_removeAt ⟨(Nat.le_of_ble_eq_true rfl), (Nat.le_of_ble_eq_true rfl)⟩) (zPVw hE hP hD [2, 7] rfl rfl 2 rfl rfl) rfl rfl hl.1 rfl (lv_room (Nat.le_of_ble_eq_true rfl)) dX8_ends_42 ⟨Nat.zero_le _, Nat.zero_le _⟩) hP hD hS hA [2, 7] [0, 1, 3, 4, 5, 6] [0, 1, 6, 2, 3, 4, 5, 7] rfl rfl rfl rfl (by decide) rfl rfl rfl (fun H locs hP hD hS => ?_)
    refine lv_aload_n hx hb dX8_ends_45 rfl (lv_at hl 0 rfl) ?_
    refine va_get (D := G.1) (ci := 8) (v := .ref a_this_now) (C := RX8) (T := TX8) (N := 12) hx hb hts inX8 hown hK hP 0 rfl rfl 4 (by decide) lk36 (fun _ h9 => h9) rfl dX8_ends_46 ?_
    refine va_get (D := G.1) (ci := 0) (v := .ref a_this_now_leases) (C := RX0) (T := TX0) (N := 5) hx hb hts inX0 hown hK hP 1 rfl rfl 3 (by decide) lk116 (fun _ h9 => h9) rfl dX8_ends_49 ?_
    refine va_get (D := G.1) (ci := 6) (v := .int w13) (C := RX6) (T := TX6) (N := 3) hx hb hts inX6 hown hK hP 2 rfl rfl 2 (by decide) lk99 (fun _ h9 => h9) rfl dX8_ends_52 ?_
    obtain ⟨hr0, hr1, hr2, hr3, hr4, hr5⟩ := so6 hf
    subst hr0
    subst hr1
    subst hr2
    subst hr3
    subst hr4
    subst hr5
    rw [← hQ]
    exact W.iret (v := w13) hx hb hr (fun t ht hW => ⟨⟨rfl, by rw [ht]; exact hP⟩, hS.F ht⟩) hS.2.2 dX8_ends_55
  · have hf := if_t hf hc9
    refine lv_iconst (v := (-1 : Int32)) hx hb dX8_ends_14 (by decide) ?_
    obtain ⟨hr0, hr1, hr2, hr3, hr4, hr5⟩ := so6 hf
    subst hr0
    subst hr1
    subst hr2
    subst hr3
    subst hr4
    subst hr5
    rw [← hQ]
    exact W.iret (v := (-1 : Int32)) hx hb hr (fun t ht hW => ⟨⟨rfl, by rw [ht]; exact hP⟩, hS.F ht⟩) hS.2.2 dX8_ends_15
theorem hd_X2_undoLatest : yX2_undoLatest.cls = RX2 ∧ yX2_undoLatest.cls ≠ "java/lang/invoke/MethodHandle" ∧ yX2_undoLatest.cls ≠ "java/lang/invoke/VarHandle" ∧ (parseMethodDescriptor yX2_undoLatest.desc).map (fun d => d.parameters.length) = some 1 := by decide +kernel
def f_X8_undo  (v_now_past_rows_size : Int32) (v_now_leases_most : Int32) (v_now_leases_size : Int32) (v_now_past_places : (Nat → Int32)) (v_now_leases_parts : (Nat → Int32)) (v_now_past_rows_parts : (Nat → Int32))  : Option (Int32 × Int32 × Int32 × (Nat → Int32) × (Nat → Int32)) := if v_now_past_rows_size = (0 : Int32) then (some ((-2 : Int32), v_now_past_rows_size, v_now_leases_size, v_now_leases_parts, v_now_past_rows_parts)) else (bd4 (f_X2_undoLatest (v_now_leases_most) (v_now_leases_size) (v_now_past_rows_size) (v_now_past_places) (v_now_leases_parts) (v_now_past_rows_parts)) fun w7 w8 w9 w10 => some (w7, w8, w7, w9, w10))
abbrev rm_X8_undo : Room := { frames := 3, cells := 0, slots := 0, locals := 78 }
set_option maxHeartbeats 4000000 in
set_option maxRecDepth 100000 in
theorem c_X8_undo (l : Launch) (G : zG) (sz : Nat) (a_this : Nat) (a_this_now : Nat) (a_this_now_past : Nat) (a_this_now_past_rows : Nat) (a_this_now_leases : Nat) (a_this_now_past_places : Nat) (a_this_now_leases_parts : Nat) (a_this_now_past_rows_parts : Nat) (a_this_text : Nat) (a_this_reader : Nat) (a_this_told : Nat) (a_this_draft : Nat) (a_this_firstImage : Nat) (a_this_secondImage : Nat) (a_this_kept : Nat) (a_this_offers : Nat) (a_this_seen : Nat) (a_this_rents : Nat) (a_this_now_purses : Nat) (v_traced : Int64) (v_now_night : Int32) (v_now_lot : Int32) (v_now_past_rows_most : Int32) (v_now_past_rows_size : Int32) (v_now_leases_most : Int32) (v_now_leases_size : Int32) (v_now_past_places : (Nat → Int32)) (v_now_leases_parts : (Nat → Int32)) (v_now_past_rows_parts : (Nat → Int32)) (R0 : Int32) (R1 : Int32) (R2 : Int32) (R3 : (Nat → Int32)) (R4 : (Nat → Int32)) (hf : f_X8_undo v_now_past_rows_size v_now_leases_most v_now_leases_size v_now_past_places v_now_leases_parts v_now_past_rows_parts = some (R0, R1, R2, R3, R4)) : Met l yX8_undo wsX8_undo rm_X8_undo (va_Pc [.ref a_this] (zB G [(a_this, .inr (8, [.ref a_this_text, .ref a_this_reader, .ref a_this_told, .ref a_this_draft, .ref a_this_now, .ref a_this_firstImage, .ref a_this_secondImage, .ref a_this_kept, .ref a_this_offers, .ref a_this_seen, .ref a_this_rents, .long v_traced])), (a_this_now, .inr (0, [.int v_now_night, .int v_now_lot, .ref a_this_now_purses, .ref a_this_now_leases, .ref a_this_now_past])), (a_this_now_past, .inr (2, [.ref a_this_now_past_rows, .ref a_this_now_past_places])), (a_this_now_past_rows, .inr (6, [.int v_now_past_rows_most, .ref a_this_now_past_rows_parts, .int v_now_past_rows_size])), (a_this_now_leases, .inr (6, [.int v_now_leases_most, .ref a_this_now_leases_parts, .int v_now_leases_size])), (a_this_now_past_places, .inl (G.2.1, 6, .inl v_now_past_places)), (a_this_now_leases_parts, .inl (G.2.1, 50, .inl v_now_leases_parts)), (a_this_now_past_rows_parts, .inl (G.2.1, 50, .inl v_now_past_rows_parts))] sz)) (zQ G (some (.int R0)) [(a_this, .inr (8, [.ref a_this_text, .ref a_this_reader, .ref a_this_told, .ref a_this_draft, .ref a_this_now, .ref a_this_firstImage, .ref a_this_secondImage, .ref a_this_kept, .ref a_this_offers, .ref a_this_seen, .ref a_this_rents, .long v_traced])), (a_this_now, .inr (0, [.int v_now_night, .int v_now_lot, .ref a_this_now_purses, .ref a_this_now_leases, .ref a_this_now_past])), (a_this_now_past, .inr (2, [.ref a_this_now_past_rows, .ref a_this_now_past_places])), (a_this_now_past_rows, .inr (6, [.int v_now_past_rows_most, .ref a_this_now_past_rows_parts, .int R1])), (a_this_now_leases, .inr (6, [.int v_now_leases_most, .ref a_this_now_leases_parts, .int R2])), (a_this_now_past_places, .inl (G.2.1, 6, .inl v_now_past_places)), (a_this_now_leases_parts, .inl (G.2.1, 50, .inl R3)), (a_this_now_past_rows_parts, .inl (G.2.1, 50, .inl R4))] (va_A [(a_this, .inr (8, [.ref a_this_text, .ref a_this_reader, .ref a_this_told, .ref a_this_draft, .ref a_this_now, .ref a_this_firstImage, .ref a_this_secondImage, .ref a_this_kept, .ref a_this_offers, .ref a_this_seen, .ref a_this_rents, .long v_traced])), (a_this_now, .inr (0, [.int v_now_night, .int v_now_lot, .ref a_this_now_purses, .ref a_this_now_leases, .ref a_this_now_past])), (a_this_now_past, .inr (2, [.ref a_this_now_past_rows, .ref a_this_now_past_places])), (a_this_now_past_rows, .inr (6, [.int v_now_past_rows_most, .ref a_this_now_past_rows_parts, .int v_now_past_rows_size])), (a_this_now_leases, .inr (6, [.int v_now_leases_most, .ref a_this_now_leases_parts, .int v_now_leases_size])), (a_this_now_past_places, .inl (G.2.1, 6, .inl v_now_past_places)), (a_this_now_leases_parts, .inl (G.2.1, 50, .inl v_now_leases_parts)), (a_this_now_past_rows_parts, .inl (G.2.1, 50, .inl v_now_past_rows_parts))] sz)) 0 0 (va_A [(a_this, .inr (8, [.ref a_this_text, .ref a_this_reader, .ref a_this_told, .ref a_this_draft, .ref a_this_now, .ref a_this_firstImage, .ref a_this_secondImage, .ref a_this_kept, .ref a_this_offers, .ref a_this_seen, .ref a_this_rents, .long v_traced])), (a_this_now, .inr (0, [.int v_now_night, .int v_now_lot, .ref a_this_now_purses, .ref a_this_now_leases, .ref a_this_now_past])), (a_this_now_past, .inr (2, [.ref a_this_now_past_rows, .ref a_this_now_past_places])), (a_this_now_past_rows, .inr (6, [.int v_now_past_rows_most, .ref a_this_now_past_rows_parts, .int v_now_past_rows_size])), (a_this_now_leases, .inr (6, [.int v_now_leases_most, .ref a_this_now_leases_parts, .int v_now_leases_size])), (a_this_now_past_places, .inl (G.2.1, 6, .inl v_now_past_places)), (a_this_now_leases_parts, .inl (G.2.1, 50, .inl v_now_leases_parts)), (a_this_now_past_rows_parts, .inl (G.2.1, 50, .inl v_now_past_rows_parts))] sz) := by
  refine Met.ofW (cc := cX8_undo) (maxL := 1) (ret := (some .int)) (by decide) rfl ?_
  intro p e s m args below meth c s₁ B hml hv
  obtain ⟨hargs, hsz, hP, hD0, hE⟩ := hv
  have hx := B.exec
  have hb := B.bytes
  have hr := B.returns
  have hts := atoms_spec (ws := wsX8_undo) B.pre
  have hown : s.vm.findClass RX8 = some m.cls := findClass_of_methodNamed B.named
  have hlocks := B.notSynchronized
  have hK := hE.1
  have hC : CallFix p m c cX8_undo 1 s args wsX8_undo RX8 := ⟨hx, hb, hml, hown, hts⟩
  have inX0 : ∀ w ∈ wsX00, w ∈ wsX8_undo := by decide +kernel
  have inX2 : ∀ w ∈ wsX20, w ∈ wsX8_undo := by decide +kernel
  have inX6 : ∀ w ∈ wsX60, w ∈ wsX8_undo := by decide +kernel
  have inX8 : ∀ w ∈ wsX80, w ∈ wsX8_undo := by decide +kernel
  have lk36 := hts (.fieldLink RX8 36 "SkyLeases" "now" "LSkyLeases$Now;") (by decide +kernel)
  have lk99 := hts (.fieldLink RX8 99 "SkyLeases$Terms" "size" "I") (by decide +kernel)
  have lk116 := hts (.fieldLink RX8 116 "SkyLeases$Now" "leases" "LSkyLeases$Terms;") (by decide +kernel)
  have lk175 := hts (.fieldLink RX8 175 "SkyLeases$Now" "past" "LSkyLeases$Past;") (by decide +kernel)
  have lk191 := hts (.fieldLink RX8 191 "SkyLeases$Past" "rows" "LSkyLeases$Terms;") (by decide +kernel)
  subst hsz
  have hD := hD0.self (sz := s.heap.size)
  generalize hAe : va_A [(a_this, .inr (8, [.ref a_this_text, .ref a_this_reader, .ref a_this_told, .ref a_this_draft, .ref a_this_now, .ref a_this_firstImage, .ref a_this_secondImage, .ref a_this_kept, .ref a_this_offers, .ref a_this_seen, .ref a_this_rents, .long v_traced])), (a_this_now, .inr (0, [.int v_now_night, .int v_now_lot, .ref a_this_now_purses, .ref a_this_now_leases, .ref a_this_now_past])), (a_this_now_past, .inr (2, [.ref a_this_now_past_rows, .ref a_this_now_past_places])), (a_this_now_past_rows, .inr (6, [.int v_now_past_rows_most, .ref a_this_now_past_rows_parts, .int v_now_past_rows_size])), (a_this_now_leases, .inr (6, [.int v_now_leases_most, .ref a_this_now_leases_parts, .int v_now_leases_size])), (a_this_now_past_places, .inl (G.2.1, 6, .inl v_now_past_places)), (a_this_now_leases_parts, .inl (G.2.1, 50, .inl v_now_leases_parts)), (a_this_now_past_rows_parts, .inl (G.2.1, 50, .inl v_now_past_rows_parts))] s.heap.size = A at hD ⊢
  have hA : ∀ q : Nat, s.heap.size ≤ q → A q := fun q h => by rw [← hAe]; exact Or.inr h
  have hS : va_S A s.heap s.heap [] := va_S.rf
  have hP : va_P G.1 vwCl [(a_this, .inr (8, [.ref a_this_text, .ref a_this_reader, .ref a_this_told, .ref a_this_draft, .ref a_this_now, .ref a_this_firstImage, .ref a_this_secondImage, .ref a_this_kept, .ref a_this_offers, .ref a_this_seen, .ref a_this_rents, .long v_traced])), (a_this_now, .inr (0, [.int v_now_night, .int v_now_lot, .ref a_this_now_purses, .ref a_this_now_leases, .ref a_this_now_past])), (a_this_now_past, .inr (2, [.ref a_this_now_past_rows, .ref a_this_now_past_places])), (a_this_now_past_rows, .inr (6, [.int v_now_past_rows_most, .ref a_this_now_past_rows_parts, .int v_now_past_rows_size])), (a_this_now_leases, .inr (6, [.int v_now_leases_most, .ref a_this_now_leases_parts, .int v_now_leases_size])), (a_this_now_past_places, .inl (G.2.1, 6, .inl v_now_past_places)), (a_this_now_leases_parts, .inl (G.2.1, 50, .inl v_now_leases_parts)), (a_this_now_past_rows_parts, .inl (G.2.1, 50, .inl v_now_past_rows_parts))] s.heap := hP
  have hl := lv_entry ([.ref a_this]) (n := 1) (Nat.le_of_ble_eq_true rfl)
  have hent : entryFrame m args 1 = F0 m 0 ((lg_sl ([.ref a_this]) ++ List.replicate (1 - (lg_sl ([.ref a_this])).length) Slot.unset).toArray) [] := by rw [hargs]; exact lg_entry_eq m [.ref a_this] 1
  refine W.eq hent ?_
  clear hent
  generalize (lg_sl ([.ref a_this]) ++ List.replicate (1 - (lg_sl ([.ref a_this])).length) Slot.unset).toArray = ls at hl ⊢
  have hl : lv_has ls 1 [(0, .ref a_this)] := hl
  generalize hQ : MQ below _ args s 0 0 _ = QQ
  change W p l e rm_X8_undo s m args below meth c s.heap [] 0 0 QQ _
  have hSH := hS
  unfold f_X8_undo at hf
  refine lv_aload_n hx hb dX8_undo_0 rfl (lv_at hl 0 rfl) ?_
  refine va_get (D := G.1) (ci := 8) (v := .ref a_this_now) (C := RX8) (T := TX8) (N := 12) hx hb hts inX8 hown hK hP 0 rfl rfl 4 (by decide) lk36 (fun _ h9 => h9) rfl dX8_undo_1 ?_
  refine va_get (D := G.1) (ci := 0) (v := .ref a_this_now_past) (C := RX0) (T := TX0) (N := 5) hx hb hts inX0 hown hK hP 1 rfl rfl 4 (by decide) lk175 (fun _ h9 => h9) rfl dX8_undo_4 ?_
  refine va_get (D := G.1) (ci := 2) (v := .ref a_this_now_past_rows) (C := RX2) (T := TX2) (N := 2) hx hb hts inX2 hown hK hP 2 rfl rfl 0 (by decide) lk191 (fun _ h9 => h9) rfl dX8_undo_7 ?_
  refine va_get (D := G.1) (ci := 6) (v := .int v_now_past_rows_size) (C := RX6) (T := TX6) (N := 3) hx hb hts inX6 hown hK hP 3 rfl rfl 2 (by decide) lk99 (fun _ h9 => h9) rfl dX8_undo_10 ?_
  refine lv_if_ne (tgt := 19) hx hb dX8_undo_13 (by decide) (fun hc6 => ?_) (fun hc6 => ?_)
  · have hf := if_f hf hc6
    refine lv_aload_n hx hb dX8_undo_19 rfl (lv_at hl 0 rfl) ?_
    refine va_get (D := G.1) (ci := 8) (v := .ref a_this_now) (C := RX8) (T := TX8) (N := 12) hx hb hts inX8 hown hK hP 0 rfl rfl 4 (by decide) lk36 (fun _ h9 => h9) rfl dX8_undo_20 ?_
    refine va_get (D := G.1) (ci := 0) (v := .ref a_this_now_past) (C := RX0) (T := TX0) (N := 5) hx hb hts inX0 hown hK hP 1 rfl rfl 4 (by decide) lk175 (fun _ h9 => h9) rfl dX8_undo_23 ?_
    refine lv_aload_n hx hb dX8_undo_26 rfl (lv_at hl 0 rfl) ?_
    refine va_get (D := G.1) (ci := 8) (v := .ref a_this_now) (C := RX8) (T := TX8) (N := 12) hx hb hts inX8 hown hK hP 0 rfl rfl 4 (by decide) lk36 (fun _ h9 => h9) rfl dX8_undo_27 ?_
    refine va_get (D := G.1) (ci := 0) (v := .ref a_this_now_leases) (C := RX0) (T := TX0) (N := 5) hx hb hts inX0 hown hK hP 1 rfl rfl 3 (by decide) lk116 (fun _ h9 => h9) rfl dX8_undo_30 ?_
    obtain ⟨w7, w8, w9, w10, hu, hf⟩ := bd4_some hf
    refine zWn (wr := [(a_this, .inr (8, [.ref a_this_text, .ref a_this_reader, .ref a_this_told, .ref a_this_draft, .ref a_this_now, .ref a_this_firstImage, .ref a_this_secondImage, .ref a_this_kept, .ref a_this_offers, .ref a_this_seen, .ref a_this_rents, .long v_traced])), (a_this_now, .inr (0, [.int v_now_night, .int v_now_lot, .ref a_this_now_purses, .ref a_this_now_leases, .ref a_this_now_past]))]) (ws2 := [(a_this, .inr (8, [.ref a_this_text, .ref a_this_reader, .ref a_this_told, .ref a_this_draft, .ref a_this_now, .ref a_this_firstImage, .ref a_this_secondImage, .ref a_this_kept, .ref a_this_offers, .ref a_this_seen, .ref a_this_rents, .long v_traced])), (a_this_now, .inr (0, [.int v_now_night, .int v_now_lot, .ref a_this_now_purses, .ref a_this_now_leases, .ref a_this_now_past])), (a_this_now_past, .inr (2, [.ref a_this_now_past_rows, .ref a_this_now_past_places])), (a_this_now_past_rows, .inr (6, [.int v_now_past_rows_most, .ref a_this_now_past_rows_parts, .int w8])), (a_this_now_leases, .inr (6, [.int v_now_leases_most, .ref a_this_now_leases_parts, .int w7])), (a_this_now_past_places, .inl (G.2.1, 6, .inl v_now_past_places)), (a_this_now_leases_parts, .inl (G.2.1, 50, .inl w9)), (a_this_now_past_rows_parts, .inl (G.2.1, 50, .inl w10))]) (va_runV (As := [.ref a_this_now_leases]) (rest := []) hC (c_X2_undoLatest l G _ a_this_now_past a_this_now_leases a_this_now_past_rows a_this_now_past_places a_this_now_leases_parts a_this_now_past_rows_parts (v_now_leases_most) (v_now_leases_size) (v_now_past_rows_most) (v_now_past_rows_size) (v_now_past_places) (v_now_leases_parts) (v_now_past_rows_parts) w7 w8 w9 w10 hu) (cwV 1 hts gX8_undo_X2_undoLatest rfl rfl rfl hd_X2_undoLatest ⟨(Nat.le_of_ble_eq_true rfl), (Nat.le_of_ble_eq_true rfl)⟩) (zPVw hE hP hD [2, 4, 3, 5, 6, 7] rfl rfl 2 rfl rfl) rfl rfl hl.1 rfl (lv_room (Nat.le_of_ble_eq_true rfl)) dX8_undo_33 ⟨Nat.zero_le _, Nat.zero_le _⟩) hP hD hS hA [2, 4, 3, 5, 6, 7] [0, 1] [0, 1, 2, 4, 3, 5, 6, 7] rfl rfl rfl rfl (by decide) rfl rfl rfl (fun H locs hP hD hS => ?_)
    refine lv_aload_n hx hb dX8_undo_36 rfl (lv_at hl 0 rfl) ?_
    refine va_get (D := G.1) (ci := 8) (v := .ref a_this_now) (C := RX8) (T := TX8) (N := 12) hx hb hts inX8 hown hK hP 0 rfl rfl 4 (by decide) lk36 (fun _ h9 => h9) rfl dX8_undo_37 ?_
    refine va_get (D := G.1) (ci := 0) (v := .ref a_this_now_leases) (C := RX0) (T := TX0) (N := 5) hx hb hts inX0 hown hK hP 1 rfl rfl 3 (by decide) lk116 (fun _ h9 => h9) rfl dX8_undo_40 ?_
    refine va_get (D := G.1) (ci := 6) (v := .int w7) (C := RX6) (T := TX6) (N := 3) hx hb hts inX6 hown hK hP 4 rfl rfl 2 (by decide) lk99 (fun _ h9 => h9) rfl dX8_undo_43 ?_
    obtain ⟨hr0, hr1, hr2, hr3, hr4⟩ := so5 hf
    subst hr0
    subst hr1
    subst hr2
    subst hr3
    subst hr4
    rw [← hQ]
    exact W.iret (v := w7) hx hb hr (fun t ht hW => ⟨⟨rfl, by rw [ht]; exact hP⟩, hS.F ht⟩) hS.2.2 dX8_undo_46
  · have hf := if_t hf hc6
    refine lv_bipush (v := (-2 : Int32)) hx hb dX8_undo_16 (by decide) ?_
    obtain ⟨hr0, hr1, hr2, hr3, hr4⟩ := so5 hf
    subst hr0
    subst hr1
    subst hr2
    subst hr3
    subst hr4
    rw [← hQ]
    exact W.iret (v := (-2 : Int32)) hx hb hr (fun t ht hW => ⟨⟨rfl, by rw [ht]; exact hP⟩, hS.F ht⟩) hS.2.2 dX8_undo_18
theorem hd_X1_settleLast : yX1_settleLast.cls = RX1 ∧ yX1_settleLast.cls ≠ "java/lang/invoke/MethodHandle" ∧ yX1_settleLast.cls ≠ "java/lang/invoke/VarHandle" ∧ (parseMethodDescriptor yX1_settleLast.desc).map (fun d => d.parameters.length) = some 2 := by decide +kernel
def f_X8_offer  (v_told_squares : Int32) (v_told_tenants : Int32) (v_offers_terms_most : Int32) (v_offers_terms_size : Int32) (v_offers_terms_parts : (Nat → Int32)) (v_offers_prices : (Nat → Int32)) (v_offers_squareBits : (Nat → Int32)) (v_offers_clashes : (Nat → Int32)) (g1 : Int32) (g2 : Int32) (g3 : Int32) (g4 : Int32) (g5 : Int32) (g6 : Int32) : Option (Int32 × Int32 × (Nat → Int32) × (Nat → Int32) × (Nat → Int32) × (Nat → Int32)) := bd1 (f_X8_areTerms (v_told_squares) (v_told_tenants) (g1) (g2) (g3) (g4) (g5)) fun r12 => if r12 = (0 : Int32) then (some ((-1 : Int32), v_offers_terms_size, v_offers_terms_parts, v_offers_prices, v_offers_squareBits, v_offers_clashes)) else (bd1 (f_X8_isWithin (g6) ((1 : Int32)) ((99 : Int32))) fun r14 => if r14 = (0 : Int32) then (some ((-1 : Int32), v_offers_terms_size, v_offers_terms_parts, v_offers_prices, v_offers_squareBits, v_offers_clashes)) else (bd1 (f_X6_isFull (v_offers_terms_most) (v_offers_terms_size)) fun r16 => if r16 = (0 : Int32) then (bd2 (f_X6_add (v_offers_terms_most) (v_offers_terms_size) (v_offers_terms_parts) (g1) (g2) (g3) (g4) (g5)) fun w18 w19 => bd3 (f_X1_settleLast (w18) (v_offers_prices) (v_offers_squareBits) (v_offers_clashes) (w19) (g6) (v_told_squares)) fun w20 w21 w22 => some ((w18 - (1 : Int32)), w18, w19, w20, w21, w22)) else (some ((-3 : Int32), v_offers_terms_size, v_offers_terms_parts, v_offers_prices, v_offers_squareBits, v_offers_clashes))))
abbrev rm_X8_offer : Room := { frames := 4, cells := 0, slots := 0, locals := 90 }
set_option maxHeartbeats 4000000 in
set_option maxRecDepth 100000 in
theorem c_X8_offer (l : Launch) (G : zG) (sz : Nat) (a_this : Nat) (a_this_told : Nat) (a_this_offers : Nat) (a_this_offers_terms : Nat) (a_this_offers_terms_parts : Nat) (a_this_offers_prices : Nat) (a_this_offers_squareBits : Nat) (a_this_offers_clashes : Nat) (a_this_text : Nat) (a_this_reader : Nat) (a_this_draft : Nat) (a_this_now : Nat) (a_this_firstImage : Nat) (a_this_secondImage : Nat) (a_this_kept : Nat) (a_this_seen : Nat) (a_this_rents : Nat) (a_this_told_starts : Nat) (a_this_told_paces : Nat) (a_this_told_brights : Nat) (a_this_told_purses : Nat) (a_this_told_leases : Nat) (a_this_offers_starBits : Nat) (a_this_offers_heldBits : Nat) (v_traced : Int64) (v_told_squares : Int32) (v_told_stars : Int32) (v_told_tenants : Int32) (v_offers_terms_most : Int32) (v_offers_terms_size : Int32) (v_offers_terms_parts : (Nat → Int32)) (v_offers_prices : (Nat → Int32)) (v_offers_squareBits : (Nat → Int32)) (v_offers_clashes : (Nat → Int32)) (g1 : Int32) (g2 : Int32) (g3 : Int32) (g4 : Int32) (g5 : Int32) (g6 : Int32) (R0 : Int32) (R1 : Int32) (R2 : (Nat → Int32)) (R3 : (Nat → Int32)) (R4 : (Nat → Int32)) (R5 : (Nat → Int32)) (hf : f_X8_offer v_told_squares v_told_tenants v_offers_terms_most v_offers_terms_size v_offers_terms_parts v_offers_prices v_offers_squareBits v_offers_clashes g1 g2 g3 g4 g5 g6 = some (R0, R1, R2, R3, R4, R5)) : Met l yX8_offer wsX8_offer rm_X8_offer (va_Pc [.ref a_this, .int g1, .int g2, .int g3, .int g4, .int g5, .int g6] (zB G [(a_this, .inr (8, [.ref a_this_text, .ref a_this_reader, .ref a_this_told, .ref a_this_draft, .ref a_this_now, .ref a_this_firstImage, .ref a_this_secondImage, .ref a_this_kept, .ref a_this_offers, .ref a_this_seen, .ref a_this_rents, .long v_traced])), (a_this_told, .inr (5, [.int v_told_squares, .int v_told_stars, .ref a_this_told_starts, .ref a_this_told_paces, .ref a_this_told_brights, .int v_told_tenants, .ref a_this_told_purses, .ref a_this_told_leases])), (a_this_offers, .inr (1, [.ref a_this_offers_terms, .ref a_this_offers_prices, .ref a_this_offers_squareBits, .ref a_this_offers_clashes, .ref a_this_offers_starBits, .ref a_this_offers_heldBits])), (a_this_offers_terms, .inr (6, [.int v_offers_terms_most, .ref a_this_offers_terms_parts, .int v_offers_terms_size])), (a_this_offers_terms_parts, .inl (G.2.1, 50, .inl v_offers_terms_parts)), (a_this_offers_prices, .inl (G.2.1, 8, .inl v_offers_prices)), (a_this_offers_squareBits, .inl (G.2.1, 8, .inl v_offers_squareBits)), (a_this_offers_clashes, .inl (G.2.1, 8, .inl v_offers_clashes))] sz)) (zQ G (some (.int R0)) [(a_this, .inr (8, [.ref a_this_text, .ref a_this_reader, .ref a_this_told, .ref a_this_draft, .ref a_this_now, .ref a_this_firstImage, .ref a_this_secondImage, .ref a_this_kept, .ref a_this_offers, .ref a_this_seen, .ref a_this_rents, .long v_traced])), (a_this_told, .inr (5, [.int v_told_squares, .int v_told_stars, .ref a_this_told_starts, .ref a_this_told_paces, .ref a_this_told_brights, .int v_told_tenants, .ref a_this_told_purses, .ref a_this_told_leases])), (a_this_offers, .inr (1, [.ref a_this_offers_terms, .ref a_this_offers_prices, .ref a_this_offers_squareBits, .ref a_this_offers_clashes, .ref a_this_offers_starBits, .ref a_this_offers_heldBits])), (a_this_offers_terms, .inr (6, [.int v_offers_terms_most, .ref a_this_offers_terms_parts, .int R1])), (a_this_offers_terms_parts, .inl (G.2.1, 50, .inl R2)), (a_this_offers_prices, .inl (G.2.1, 8, .inl R3)), (a_this_offers_squareBits, .inl (G.2.1, 8, .inl R4)), (a_this_offers_clashes, .inl (G.2.1, 8, .inl R5))] (va_A [(a_this, .inr (8, [.ref a_this_text, .ref a_this_reader, .ref a_this_told, .ref a_this_draft, .ref a_this_now, .ref a_this_firstImage, .ref a_this_secondImage, .ref a_this_kept, .ref a_this_offers, .ref a_this_seen, .ref a_this_rents, .long v_traced])), (a_this_told, .inr (5, [.int v_told_squares, .int v_told_stars, .ref a_this_told_starts, .ref a_this_told_paces, .ref a_this_told_brights, .int v_told_tenants, .ref a_this_told_purses, .ref a_this_told_leases])), (a_this_offers, .inr (1, [.ref a_this_offers_terms, .ref a_this_offers_prices, .ref a_this_offers_squareBits, .ref a_this_offers_clashes, .ref a_this_offers_starBits, .ref a_this_offers_heldBits])), (a_this_offers_terms, .inr (6, [.int v_offers_terms_most, .ref a_this_offers_terms_parts, .int v_offers_terms_size])), (a_this_offers_terms_parts, .inl (G.2.1, 50, .inl v_offers_terms_parts)), (a_this_offers_prices, .inl (G.2.1, 8, .inl v_offers_prices)), (a_this_offers_squareBits, .inl (G.2.1, 8, .inl v_offers_squareBits)), (a_this_offers_clashes, .inl (G.2.1, 8, .inl v_offers_clashes))] sz)) 0 0 (va_A [(a_this, .inr (8, [.ref a_this_text, .ref a_this_reader, .ref a_this_told, .ref a_this_draft, .ref a_this_now, .ref a_this_firstImage, .ref a_this_secondImage, .ref a_this_kept, .ref a_this_offers, .ref a_this_seen, .ref a_this_rents, .long v_traced])), (a_this_told, .inr (5, [.int v_told_squares, .int v_told_stars, .ref a_this_told_starts, .ref a_this_told_paces, .ref a_this_told_brights, .int v_told_tenants, .ref a_this_told_purses, .ref a_this_told_leases])), (a_this_offers, .inr (1, [.ref a_this_offers_terms, .ref a_this_offers_prices, .ref a_this_offers_squareBits, .ref a_this_offers_clashes, .ref a_this_offers_starBits, .ref a_this_offers_heldBits])), (a_this_offers_terms, .inr (6, [.int v_offers_terms_most, .ref a_this_offers_terms_parts, .int v_offers_terms_size])), (a_this_offers_terms_parts, .inl (G.2.1, 50, .inl v_offers_terms_parts)), (a_this_offers_prices, .inl (G.2.1, 8, .inl v_offers_prices)), (a_this_offers_squareBits, .inl (G.2.1, 8, .inl v_offers_squareBits)), (a_this_offers_clashes, .inl (G.2.1, 8, .inl v_offers_clashes))] sz) := by
  refine Met.ofW (cc := cX8_offer) (maxL := 7) (ret := (some .int)) (by decide) rfl ?_
  intro p e s m args below meth c s₁ B hml hv
  obtain ⟨hargs, hsz, hP, hD0, hE⟩ := hv
  have hx := B.exec
  have hb := B.bytes
  have hr := B.returns
  have hts := atoms_spec (ws := wsX8_offer) B.pre
  have hown : s.vm.findClass RX8 = some m.cls := findClass_of_methodNamed B.named
  have hlocks := B.notSynchronized
  have hK := hE.1
  have hC : CallFix p m c cX8_offer 7 s args wsX8_offer RX8 := ⟨hx, hb, hml, hown, hts⟩
  have inX1 : ∀ w ∈ wsX10, w ∈ wsX8_offer := by decide +kernel
  have inX5 : ∀ w ∈ wsX50, w ∈ wsX8_offer := by decide +kernel
  have inX6 : ∀ w ∈ wsX60, w ∈ wsX8_offer := by decide +kernel
  have inX8 : ∀ w ∈ wsX80, w ∈ wsX8_offer := by decide +kernel
  have lk26 := hts (.fieldLink RX8 26 "SkyLeases" "told" "LSkyLeases$Sky;") (by decide +kernel)
  have lk53 := hts (.fieldLink RX8 53 "SkyLeases" "offers" "LSkyLeases$Offers;") (by decide +kernel)
  have lk95 := hts (.fieldLink RX8 95 "SkyLeases$Offers" "terms" "LSkyLeases$Terms;") (by decide +kernel)
  have lk99 := hts (.fieldLink RX8 99 "SkyLeases$Terms" "size" "I") (by decide +kernel)
  have lk131 := hts (.fieldLink RX8 131 "SkyLeases$Sky" "squares" "I") (by decide +kernel)
  subst hsz
  have hD := hD0.self (sz := s.heap.size)
  generalize hAe : va_A [(a_this, .inr (8, [.ref a_this_text, .ref a_this_reader, .ref a_this_told, .ref a_this_draft, .ref a_this_now, .ref a_this_firstImage, .ref a_this_secondImage, .ref a_this_kept, .ref a_this_offers, .ref a_this_seen, .ref a_this_rents, .long v_traced])), (a_this_told, .inr (5, [.int v_told_squares, .int v_told_stars, .ref a_this_told_starts, .ref a_this_told_paces, .ref a_this_told_brights, .int v_told_tenants, .ref a_this_told_purses, .ref a_this_told_leases])), (a_this_offers, .inr (1, [.ref a_this_offers_terms, .ref a_this_offers_prices, .ref a_this_offers_squareBits, .ref a_this_offers_clashes, .ref a_this_offers_starBits, .ref a_this_offers_heldBits])), (a_this_offers_terms, .inr (6, [.int v_offers_terms_most, .ref a_this_offers_terms_parts, .int v_offers_terms_size])), (a_this_offers_terms_parts, .inl (G.2.1, 50, .inl v_offers_terms_parts)), (a_this_offers_prices, .inl (G.2.1, 8, .inl v_offers_prices)), (a_this_offers_squareBits, .inl (G.2.1, 8, .inl v_offers_squareBits)), (a_this_offers_clashes, .inl (G.2.1, 8, .inl v_offers_clashes))] s.heap.size = A at hD ⊢
  have hA : ∀ q : Nat, s.heap.size ≤ q → A q := fun q h => by rw [← hAe]; exact Or.inr h
  have hS : va_S A s.heap s.heap [] := va_S.rf
  have hP : va_P G.1 vwCl [(a_this, .inr (8, [.ref a_this_text, .ref a_this_reader, .ref a_this_told, .ref a_this_draft, .ref a_this_now, .ref a_this_firstImage, .ref a_this_secondImage, .ref a_this_kept, .ref a_this_offers, .ref a_this_seen, .ref a_this_rents, .long v_traced])), (a_this_told, .inr (5, [.int v_told_squares, .int v_told_stars, .ref a_this_told_starts, .ref a_this_told_paces, .ref a_this_told_brights, .int v_told_tenants, .ref a_this_told_purses, .ref a_this_told_leases])), (a_this_offers, .inr (1, [.ref a_this_offers_terms, .ref a_this_offers_prices, .ref a_this_offers_squareBits, .ref a_this_offers_clashes, .ref a_this_offers_starBits, .ref a_this_offers_heldBits])), (a_this_offers_terms, .inr (6, [.int v_offers_terms_most, .ref a_this_offers_terms_parts, .int v_offers_terms_size])), (a_this_offers_terms_parts, .inl (G.2.1, 50, .inl v_offers_terms_parts)), (a_this_offers_prices, .inl (G.2.1, 8, .inl v_offers_prices)), (a_this_offers_squareBits, .inl (G.2.1, 8, .inl v_offers_squareBits)), (a_this_offers_clashes, .inl (G.2.1, 8, .inl v_offers_clashes))] s.heap := hP
  have hl := lv_entry ([.ref a_this, .int g1, .int g2, .int g3, .int g4, .int g5, .int g6]) (n := 7) (Nat.le_of_ble_eq_true rfl)
  have hent : entryFrame m args 7 = F0 m 0 ((lg_sl ([.ref a_this, .int g1, .int g2, .int g3, .int g4, .int g5, .int g6]) ++ List.replicate (7 - (lg_sl ([.ref a_this, .int g1, .int g2, .int g3, .int g4, .int g5, .int g6])).length) Slot.unset).toArray) [] := by rw [hargs]; exact lg_entry_eq m [.ref a_this, .int g1, .int g2, .int g3, .int g4, .int g5, .int g6] 7
  refine W.eq hent ?_
  clear hent
  generalize (lg_sl ([.ref a_this, .int g1, .int g2, .int g3, .int g4, .int g5, .int g6]) ++ List.replicate (7 - (lg_sl ([.ref a_this, .int g1, .int g2, .int g3, .int g4, .int g5, .int g6])).length) Slot.unset).toArray = ls at hl ⊢
  have hl : lv_has ls 7 [(0, .ref a_this), (1, .int g1), (2, .int g2), (3, .int g3), (4, .int g4), (5, .int g5), (6, .int g6)] := hl
  generalize hQ : MQ below _ args s 0 0 _ = QQ
  change W p l e rm_X8_offer s m args below meth c s.heap [] 0 0 QQ _
  have hSH := hS
  unfold f_X8_offer at hf
  refine lv_aload_n hx hb dX8_offer_0 rfl (lv_at hl 0 rfl) ?_
  refine lv_iload_n hx hb dX8_offer_1 rfl (lv_at hl 1 rfl) ?_
  refine lv_iload_n hx hb dX8_offer_2 rfl (lv_at hl 2 rfl) ?_
  refine lv_iload_n hx hb dX8_offer_3 rfl (lv_at hl 3 rfl) ?_
  refine lv_iload hx hb dX8_offer_4 (lv_at hl 4 rfl) ?_
  refine lv_iload hx hb dX8_offer_6 (lv_at hl 5 rfl) ?_
  obtain ⟨r12, hu, hf⟩ := bd1_some hf
  refine zRi (va_runV (As := [.int g1, .int g2, .int g3, .int g4, .int g5]) (rest := []) hC (c_X8_areTerms l G a_this a_this_told a_this_text a_this_reader a_this_draft a_this_now a_this_firstImage a_this_secondImage a_this_kept a_this_offers a_this_seen a_this_rents a_this_told_starts a_this_told_paces a_this_told_brights a_this_told_purses a_this_told_leases (v_traced) (v_told_squares) (v_told_stars) (v_told_tenants) (g1) (g2) (g3) (g4) (g5) r12 hu) (cwV 5 hts gX8_offer_X8_areTerms rfl rfl rfl hd_X8_areTerms ⟨(Nat.le_of_ble_eq_true rfl), (Nat.le_of_ble_eq_true rfl)⟩) (zPV hE hP [0, 1] rfl 0 rfl rfl) rfl rfl hl.1 rfl (lv_room (Nat.le_of_ble_eq_true rfl)) dX8_offer_8 ⟨Nat.zero_le _, Nat.zero_le _⟩) ?_
  refine lv_if_eq (tgt := 25) hx hb dX8_offer_11 (by decide) (fun hc13 => ?_) (fun hc13 => ?_)
  · have hf := if_t hf hc13
    refine lv_iconst (v := (-1 : Int32)) hx hb dX8_offer_25 (by decide) ?_
    obtain ⟨hr0, hr1, hr2, hr3, hr4, hr5⟩ := so6 hf
    subst hr0
    subst hr1
    subst hr2
    subst hr3
    subst hr4
    subst hr5
    rw [← hQ]
    exact W.iret (v := (-1 : Int32)) hx hb hr (fun t ht hW => ⟨⟨rfl, by rw [ht]; exact hP⟩, hS.F ht⟩) hS.2.2 dX8_offer_26
  · have hf := if_f hf hc13
    refine lv_iload hx hb dX8_offer_14 (lv_at hl 6 rfl) ?_
    refine lv_iconst (v := (1 : Int32)) hx hb dX8_offer_16 (by decide) ?_
    refine lv_bipush (v := (99 : Int32)) hx hb dX8_offer_17 (by decide) ?_
    obtain ⟨r14, hu, hf⟩ := bd1_some hf
    refine zRi (va_runS (As := [.int g6, .int (1 : Int32), .int (99 : Int32)]) (rest := []) hC (c_X8_isWithin l G (g6) ((1 : Int32)) ((99 : Int32)) r14 hu) (va_cwS 3 hts gX8_offer_X8_isWithin rfl rfl rfl hd_X8_isWithin.2 ⟨(Nat.le_of_ble_eq_true rfl), (Nat.le_of_ble_eq_true rfl)⟩) (zPS hE hP [] rfl) rfl rfl hl.1 rfl (lv_room (Nat.le_of_ble_eq_true rfl)) dX8_offer_19 ⟨Nat.zero_le _, Nat.zero_le _⟩) ?_
    refine lv_if_ne (tgt := 27) hx hb dX8_offer_22 (by decide) (fun hc15 => ?_) (fun hc15 => ?_)
    · have hf := if_f hf hc15
      refine lv_aload_n hx hb dX8_offer_27 rfl (lv_at hl 0 rfl) ?_
      refine va_get (D := G.1) (ci := 8) (v := .ref a_this_offers) (C := RX8) (T := TX8) (N := 12) hx hb hts inX8 hown hK hP 0 rfl rfl 8 (by decide) lk53 (fun _ h9 => h9) rfl dX8_offer_28 ?_
      refine va_get (D := G.1) (ci := 1) (v := .ref a_this_offers_terms) (C := RX1) (T := TX1) (N := 6) hx hb hts inX1 hown hK hP 2 rfl rfl 0 (by decide) lk95 (fun _ h9 => h9) rfl dX8_offer_31 ?_
      obtain ⟨r16, hu, hf⟩ := bd1_some hf
      refine zRi (va_runV (As := []) (rest := []) hC (c_X6_isFull l G a_this_offers_terms a_this_offers_terms_parts (v_offers_terms_most) (v_offers_terms_size) r16 hu) (cwV 0 hts gX8_offer_X6_isFull rfl rfl rfl hd_X6_isFull ⟨(Nat.le_of_ble_eq_true rfl), (Nat.le_of_ble_eq_true rfl)⟩) (zPV hE hP [3] rfl 3 rfl rfl) rfl rfl hl.1 rfl (lv_room (Nat.le_of_ble_eq_true rfl)) dX8_offer_34 ⟨Nat.zero_le _, Nat.zero_le _⟩) ?_
      refine lv_if_eq (tgt := 43) hx hb dX8_offer_37 (by decide) (fun hc17 => ?_) (fun hc17 => ?_)
      · have hf := if_t hf hc17
        refine lv_aload_n hx hb dX8_offer_43 rfl (lv_at hl 0 rfl) ?_
        refine va_get (D := G.1) (ci := 8) (v := .ref a_this_offers) (C := RX8) (T := TX8) (N := 12) hx hb hts inX8 hown hK hP 0 rfl rfl 8 (by decide) lk53 (fun _ h9 => h9) rfl dX8_offer_44 ?_
        refine va_get (D := G.1) (ci := 1) (v := .ref a_this_offers_terms) (C := RX1) (T := TX1) (N := 6) hx hb hts inX1 hown hK hP 2 rfl rfl 0 (by decide) lk95 (fun _ h9 => h9) rfl dX8_offer_47 ?_
        refine lv_iload_n hx hb dX8_offer_50 rfl (lv_at hl 1 rfl) ?_
        refine lv_iload_n hx hb dX8_offer_51 rfl (lv_at hl 2 rfl) ?_
        refine lv_iload_n hx hb dX8_offer_52 rfl (lv_at hl 3 rfl) ?_
        refine lv_iload hx hb dX8_offer_53 (lv_at hl 4 rfl) ?_
        refine lv_iload hx hb dX8_offer_55 (lv_at hl 5 rfl) ?_
        obtain ⟨w18, w19, hu, hf⟩ := bd2_some hf
        refine zWn (wr := [(a_this, .inr (8, [.ref a_this_text, .ref a_this_reader, .ref a_this_told, .ref a_this_draft, .ref a_this_now, .ref a_this_firstImage, .ref a_this_secondImage, .ref a_this_kept, .ref a_this_offers, .ref a_this_seen, .ref a_this_rents, .long v_traced])), (a_this_told, .inr (5, [.int v_told_squares, .int v_told_stars, .ref a_this_told_starts, .ref a_this_told_paces, .ref a_this_told_brights, .int v_told_tenants, .ref a_this_told_purses, .ref a_this_told_leases])), (a_this_offers, .inr (1, [.ref a_this_offers_terms, .ref a_this_offers_prices, .ref a_this_offers_squareBits, .ref a_this_offers_clashes, .ref a_this_offers_starBits, .ref a_this_offers_heldBits])), (a_this_offers_prices, .inl (G.2.1, 8, .inl v_offers_prices)), (a_this_offers_squareBits, .inl (G.2.1, 8, .inl v_offers_squareBits)), (a_this_offers_clashes, .inl (G.2.1, 8, .inl v_offers_clashes))]) (ws2 := [(a_this, .inr (8, [.ref a_this_text, .ref a_this_reader, .ref a_this_told, .ref a_this_draft, .ref a_this_now, .ref a_this_firstImage, .ref a_this_secondImage, .ref a_this_kept, .ref a_this_offers, .ref a_this_seen, .ref a_this_rents, .long v_traced])), (a_this_told, .inr (5, [.int v_told_squares, .int v_told_stars, .ref a_this_told_starts, .ref a_this_told_paces, .ref a_this_told_brights, .int v_told_tenants, .ref a_this_told_purses, .ref a_this_told_leases])), (a_this_offers, .inr (1, [.ref a_this_offers_terms, .ref a_this_offers_prices, .ref a_this_offers_squareBits, .ref a_this_offers_clashes, .ref a_this_offers_starBits, .ref a_this_offers_heldBits])), (a_this_offers_terms, .inr (6, [.int v_offers_terms_most, .ref a_this_offers_terms_parts, .int w18])), (a_this_offers_terms_parts, .inl (G.2.1, 50, .inl w19)), (a_this_offers_prices, .inl (G.2.1, 8, .inl v_offers_prices)), (a_this_offers_squareBits, .inl (G.2.1, 8, .inl v_offers_squareBits)), (a_this_offers_clashes, .inl (G.2.1, 8, .inl v_offers_clashes))]) (va_runV (As := [.int g1, .int g2, .int g3, .int g4, .int g5]) (rest := []) hC (c_X6_add l G _ a_this_offers_terms a_this_offers_terms_parts (v_offers_terms_most) (v_offers_terms_size) (v_offers_terms_parts) (g1) (g2) (g3) (g4) (g5) w18 w19 hu) (cwV 5 hts gX8_offer_X6_add rfl rfl rfl hd_X6_add ⟨(Nat.le_of_ble_eq_true rfl), (Nat.le_of_ble_eq_true rfl)⟩) (zPVw hE hP hD [3, 4] rfl rfl 3 rfl rfl) rfl rfl hl.1 rfl (lv_room (Nat.le_of_ble_eq_true rfl)) dX8_offer_57 ⟨Nat.zero_le _, Nat.zero_le _⟩) hP hD hS hA [3, 4] [0, 1, 2, 5, 6, 7] [0, 1, 2, 6, 7, 3, 4, 5] rfl rfl rfl rfl (by decide) rfl rfl rfl (fun H locs hP hD hS => ?_)
        refine lv_aload_n hx hb dX8_offer_60 rfl (lv_at hl 0 rfl) ?_
        refine va_get (D := G.1) (ci := 8) (v := .ref a_this_offers) (C := RX8) (T := TX8) (N := 12) hx hb hts inX8 hown hK hP 0 rfl rfl 8 (by decide) lk53 (fun _ h9 => h9) rfl dX8_offer_61 ?_
        refine lv_iload hx hb dX8_offer_64 (lv_at hl 6 rfl) ?_
        refine lv_aload_n hx hb dX8_offer_66 rfl (lv_at hl 0 rfl) ?_
        refine va_get (D := G.1) (ci := 8) (v := .ref a_this_told) (C := RX8) (T := TX8) (N := 12) hx hb hts inX8 hown hK hP 0 rfl rfl 2 (by decide) lk26 (fun _ h9 => h9) rfl dX8_offer_67 ?_
        refine va_get (D := G.1) (ci := 5) (v := .int v_told_squares) (C := RX5) (T := TX5) (N := 8) hx hb hts inX5 hown hK hP 1 rfl rfl 0 (by decide) lk131 (fun _ h9 => h9) rfl dX8_offer_70 ?_
        obtain ⟨w20, w21, w22, hu, hf⟩ := bd3_some hf
        refine zWn (wr := [(a_this, .inr (8, [.ref a_this_text, .ref a_this_reader, .ref a_this_told, .ref a_this_draft, .ref a_this_now, .ref a_this_firstImage, .ref a_this_secondImage, .ref a_this_kept, .ref a_this_offers, .ref a_this_seen, .ref a_this_rents, .long v_traced])), (a_this_told, .inr (5, [.int v_told_squares, .int v_told_stars, .ref a_this_told_starts, .ref a_this_told_paces, .ref a_this_told_brights, .int v_told_tenants, .ref a_this_told_purses, .ref a_this_told_leases]))]) (ws2 := [(a_this, .inr (8, [.ref a_this_text, .ref a_this_reader, .ref a_this_told, .ref a_this_draft, .ref a_this_now, .ref a_this_firstImage, .ref a_this_secondImage, .ref a_this_kept, .ref a_this_offers, .ref a_this_seen, .ref a_this_rents, .long v_traced])), (a_this_told, .inr (5, [.int v_told_squares, .int v_told_stars, .ref a_this_told_starts, .ref a_this_told_paces, .ref a_this_told_brights, .int v_told_tenants, .ref a_this_told_purses, .ref a_this_told_leases])), (a_this_offers, .inr (1, [.ref a_this_offers_terms, .ref a_this_offers_prices, .ref a_this_offers_squareBits, .ref a_this_offers_clashes, .ref a_this_offers_starBits, .ref a_this_offers_heldBits])), (a_this_offers_terms, .inr (6, [.int v_offers_terms_most, .ref a_this_offers_terms_parts, .int w18])), (a_this_offers_terms_parts, .inl (G.2.1, 50, .inl w19)), (a_this_offers_prices, .inl (G.2.1, 8, .inl w20)), (a_this_offers_squareBits, .inl (G.2.1, 8, .inl w21)), (a_this_offers_clashes, .inl (G.2.1, 8, .inl w22))]) (va_runV (As := [.int g6, .int v_told_squares]) (rest := []) hC (c_X1_settleLast l G _ a_this_offers a_this_offers_terms a_this_offers_prices a_this_offers_squareBits a_this_offers_clashes a_this_offers_terms_parts a_this_offers_starBits a_this_offers_heldBits (v_offers_terms_most) (w18) (v_offers_prices) (v_offers_squareBits) (v_offers_clashes) (w19) (g6) (v_told_squares) w20 w21 w22 hu) (cwV 2 hts gX8_offer_X1_settleLast rfl rfl rfl hd_X1_settleLast ⟨(Nat.le_of_ble_eq_true rfl), (Nat.le_of_ble_eq_true rfl)⟩) (zPVw hE hP hD [2, 3, 5, 6, 7, 4] rfl rfl 2 rfl rfl) rfl rfl hl.1 rfl (lv_room (Nat.le_of_ble_eq_true rfl)) dX8_offer_73 ⟨Nat.zero_le _, Nat.zero_le _⟩) hP hD hS hA [2, 3, 5, 6, 7, 4] [0, 1] [0, 1, 2, 3, 7, 4, 5, 6] rfl rfl rfl rfl (by decide) rfl rfl rfl (fun H locs hP hD hS => ?_)
        refine lv_aload_n hx hb dX8_offer_76 rfl (lv_at hl 0 rfl) ?_
        refine va_get (D := G.1) (ci := 8) (v := .ref a_this_offers) (C := RX8) (T := TX8) (N := 12) hx hb hts inX8 hown hK hP 0 rfl rfl 8 (by decide) lk53 (fun _ h9 => h9) rfl dX8_offer_77 ?_
        refine va_get (D := G.1) (ci := 1) (v := .ref a_this_offers_terms) (C := RX1) (T := TX1) (N := 6) hx hb hts inX1 hown hK hP 2 rfl rfl 0 (by decide) lk95 (fun _ h9 => h9) rfl dX8_offer_80 ?_
        refine va_get (D := G.1) (ci := 6) (v := .int w18) (C := RX6) (T := TX6) (N := 3) hx hb hts inX6 hown hK hP 3 rfl rfl 2 (by decide) lk99 (fun _ h9 => h9) rfl dX8_offer_83 ?_
        refine lv_iconst (v := (1 : Int32)) hx hb dX8_offer_86 (by decide) ?_
        refine lv_isub hx hb dX8_offer_87 ?_
        obtain ⟨hr0, hr1, hr2, hr3, hr4, hr5⟩ := so6 hf
        subst hr0
        subst hr1
        subst hr2
        subst hr3
        subst hr4
        subst hr5
        rw [← hQ]
        exact W.iret (v := (w18 - (1 : Int32))) hx hb hr (fun t ht hW => ⟨⟨rfl, by rw [ht]; exact hP⟩, hS.F ht⟩) hS.2.2 dX8_offer_88
      · have hf := if_f hf hc17
        refine lv_bipush (v := (-3 : Int32)) hx hb dX8_offer_40 (by decide) ?_
        obtain ⟨hr0, hr1, hr2, hr3, hr4, hr5⟩ := so6 hf
        subst hr0
        subst hr1
        subst hr2
        subst hr3
        subst hr4
        subst hr5
        rw [← hQ]
        exact W.iret (v := (-3 : Int32)) hx hb hr (fun t ht hW => ⟨⟨rfl, by rw [ht]; exact hP⟩, hS.F ht⟩) hS.2.2 dX8_offer_42
    · have hf := if_t hf hc15
      refine lv_iconst (v := (-1 : Int32)) hx hb dX8_offer_25 (by decide) ?_
      obtain ⟨hr0, hr1, hr2, hr3, hr4, hr5⟩ := so6 hf
      subst hr0
      subst hr1
      subst hr2
      subst hr3
      subst hr4
      subst hr5
      rw [← hQ]
      exact W.iret (v := (-1 : Int32)) hx hb hr (fun t ht hW => ⟨⟨rfl, by rw [ht]; exact hP⟩, hS.F ht⟩) hS.2.2 dX8_offer_26
def f_X8_refuse  (v_offers_terms_size : Int32)  : Option (Int32 × Int32) := some (v_offers_terms_size, (0 : Int32))
abbrev rm_X8_refuse : Room := { frames := 0, cells := 0, slots := 0, locals := 0 }
set_option maxHeartbeats 4000000 in
set_option maxRecDepth 100000 in
theorem c_X8_refuse (l : Launch) (G : zG) (sz : Nat) (a_this : Nat) (a_this_offers : Nat) (a_this_offers_terms : Nat) (a_this_text : Nat) (a_this_reader : Nat) (a_this_told : Nat) (a_this_draft : Nat) (a_this_now : Nat) (a_this_firstImage : Nat) (a_this_secondImage : Nat) (a_this_kept : Nat) (a_this_seen : Nat) (a_this_rents : Nat) (a_this_offers_prices : Nat) (a_this_offers_squareBits : Nat) (a_this_offers_clashes : Nat) (a_this_offers_starBits : Nat) (a_this_offers_heldBits : Nat) (a_this_offers_terms_parts : Nat) (v_traced : Int64) (v_offers_terms_most : Int32) (v_offers_terms_size : Int32) (R0 : Int32) (R1 : Int32) (hf : f_X8_refuse v_offers_terms_size = some (R0, R1)) : Met l yX8_refuse wsX8_refuse rm_X8_refuse (va_Pc [.ref a_this] (zB G [(a_this, .inr (8, [.ref a_this_text, .ref a_this_reader, .ref a_this_told, .ref a_this_draft, .ref a_this_now, .ref a_this_firstImage, .ref a_this_secondImage, .ref a_this_kept, .ref a_this_offers, .ref a_this_seen, .ref a_this_rents, .long v_traced])), (a_this_offers, .inr (1, [.ref a_this_offers_terms, .ref a_this_offers_prices, .ref a_this_offers_squareBits, .ref a_this_offers_clashes, .ref a_this_offers_starBits, .ref a_this_offers_heldBits])), (a_this_offers_terms, .inr (6, [.int v_offers_terms_most, .ref a_this_offers_terms_parts, .int v_offers_terms_size]))] sz)) (zQ G (some (.int R0)) [(a_this, .inr (8, [.ref a_this_text, .ref a_this_reader, .ref a_this_told, .ref a_this_draft, .ref a_this_now, .ref a_this_firstImage, .ref a_this_secondImage, .ref a_this_kept, .ref a_this_offers, .ref a_this_seen, .ref a_this_rents, .long v_traced])), (a_this_offers, .inr (1, [.ref a_this_offers_terms, .ref a_this_offers_prices, .ref a_this_offers_squareBits, .ref a_this_offers_clashes, .ref a_this_offers_starBits, .ref a_this_offers_heldBits])), (a_this_offers_terms, .inr (6, [.int v_offers_terms_most, .ref a_this_offers_terms_parts, .int R1]))] (va_A [(a_this, .inr (8, [.ref a_this_text, .ref a_this_reader, .ref a_this_told, .ref a_this_draft, .ref a_this_now, .ref a_this_firstImage, .ref a_this_secondImage, .ref a_this_kept, .ref a_this_offers, .ref a_this_seen, .ref a_this_rents, .long v_traced])), (a_this_offers, .inr (1, [.ref a_this_offers_terms, .ref a_this_offers_prices, .ref a_this_offers_squareBits, .ref a_this_offers_clashes, .ref a_this_offers_starBits, .ref a_this_offers_heldBits])), (a_this_offers_terms, .inr (6, [.int v_offers_terms_most, .ref a_this_offers_terms_parts, .int v_offers_terms_size]))] sz)) 0 0 (va_A [(a_this, .inr (8, [.ref a_this_text, .ref a_this_reader, .ref a_this_told, .ref a_this_draft, .ref a_this_now, .ref a_this_firstImage, .ref a_this_secondImage, .ref a_this_kept, .ref a_this_offers, .ref a_this_seen, .ref a_this_rents, .long v_traced])), (a_this_offers, .inr (1, [.ref a_this_offers_terms, .ref a_this_offers_prices, .ref a_this_offers_squareBits, .ref a_this_offers_clashes, .ref a_this_offers_starBits, .ref a_this_offers_heldBits])), (a_this_offers_terms, .inr (6, [.int v_offers_terms_most, .ref a_this_offers_terms_parts, .int v_offers_terms_size]))] sz) := by
  refine Met.ofW (cc := cX8_refuse) (maxL := 2) (ret := (some .int)) (by decide) rfl ?_
  intro p e s m args below meth c s₁ B hml hv
  obtain ⟨hargs, hsz, hP, hD0, hE⟩ := hv
  have hx := B.exec
  have hb := B.bytes
  have hr := B.returns
  have hts := atoms_spec (ws := wsX8_refuse) B.pre
  have hown : s.vm.findClass RX8 = some m.cls := findClass_of_methodNamed B.named
  have hlocks := B.notSynchronized
  have hK := hE.1
  have hC : CallFix p m c cX8_refuse 2 s args wsX8_refuse RX8 := ⟨hx, hb, hml, hown, hts⟩
  have inX1 : ∀ w ∈ wsX10, w ∈ wsX8_refuse := by decide +kernel
  have inX6 : ∀ w ∈ wsX60, w ∈ wsX8_refuse := by decide +kernel
  have inX8 : ∀ w ∈ wsX80, w ∈ wsX8_refuse := by decide +kernel
  have lk53 := hts (.fieldLink RX8 53 "SkyLeases" "offers" "LSkyLeases$Offers;") (by decide +kernel)
  have lk95 := hts (.fieldLink RX8 95 "SkyLeases$Offers" "terms" "LSkyLeases$Terms;") (by decide +kernel)
  have lk99 := hts (.fieldLink RX8 99 "SkyLeases$Terms" "size" "I") (by decide +kernel)
  subst hsz
  have hD := hD0.self (sz := s.heap.size)
  generalize hAe : va_A [(a_this, .inr (8, [.ref a_this_text, .ref a_this_reader, .ref a_this_told, .ref a_this_draft, .ref a_this_now, .ref a_this_firstImage, .ref a_this_secondImage, .ref a_this_kept, .ref a_this_offers, .ref a_this_seen, .ref a_this_rents, .long v_traced])), (a_this_offers, .inr (1, [.ref a_this_offers_terms, .ref a_this_offers_prices, .ref a_this_offers_squareBits, .ref a_this_offers_clashes, .ref a_this_offers_starBits, .ref a_this_offers_heldBits])), (a_this_offers_terms, .inr (6, [.int v_offers_terms_most, .ref a_this_offers_terms_parts, .int v_offers_terms_size]))] s.heap.size = A at hD ⊢
  have hA : ∀ q : Nat, s.heap.size ≤ q → A q := fun q h => by rw [← hAe]; exact Or.inr h
  have hS : va_S A s.heap s.heap [] := va_S.rf
  have hP : va_P G.1 vwCl [(a_this, .inr (8, [.ref a_this_text, .ref a_this_reader, .ref a_this_told, .ref a_this_draft, .ref a_this_now, .ref a_this_firstImage, .ref a_this_secondImage, .ref a_this_kept, .ref a_this_offers, .ref a_this_seen, .ref a_this_rents, .long v_traced])), (a_this_offers, .inr (1, [.ref a_this_offers_terms, .ref a_this_offers_prices, .ref a_this_offers_squareBits, .ref a_this_offers_clashes, .ref a_this_offers_starBits, .ref a_this_offers_heldBits])), (a_this_offers_terms, .inr (6, [.int v_offers_terms_most, .ref a_this_offers_terms_parts, .int v_offers_terms_size]))] s.heap := hP
  have hl := lv_entry ([.ref a_this]) (n := 2) (Nat.le_of_ble_eq_true rfl)
  have hent : entryFrame m args 2 = F0 m 0 ((lg_sl ([.ref a_this]) ++ List.replicate (2 - (lg_sl ([.ref a_this])).length) Slot.unset).toArray) [] := by rw [hargs]; exact lg_entry_eq m [.ref a_this] 2
  refine W.eq hent ?_
  clear hent
  generalize (lg_sl ([.ref a_this]) ++ List.replicate (2 - (lg_sl ([.ref a_this])).length) Slot.unset).toArray = ls at hl ⊢
  have hl : lv_has ls 2 [(0, .ref a_this)] := hl
  generalize hQ : MQ below _ args s 0 0 _ = QQ
  change W p l e rm_X8_refuse s m args below meth c s.heap [] 0 0 QQ _
  have hSH := hS
  unfold f_X8_refuse at hf
  refine lv_aload_n hx hb dX8_refuse_0 rfl (lv_at hl 0 rfl) ?_
  refine va_get (D := G.1) (ci := 8) (v := .ref a_this_offers) (C := RX8) (T := TX8) (N := 12) hx hb hts inX8 hown hK hP 0 rfl rfl 8 (by decide) lk53 (fun _ h9 => h9) rfl dX8_refuse_1 ?_
  refine va_get (D := G.1) (ci := 1) (v := .ref a_this_offers_terms) (C := RX1) (T := TX1) (N := 6) hx hb hts inX1 hown hK hP 1 rfl rfl 0 (by decide) lk95 (fun _ h9 => h9) rfl dX8_refuse_4 ?_
  refine va_get (D := G.1) (ci := 6) (v := .int v_offers_terms_size) (C := RX6) (T := TX6) (N := 3) hx hb hts inX6 hown hK hP 2 rfl rfl 2 (by decide) lk99 (fun _ h9 => h9) rfl dX8_refuse_7 ?_
  refine lv_istore_n (lv' := [(1, .int v_offers_terms_size), (0, .ref a_this)]) hx hb dX8_refuse_10 rfl hl (by decide) rfl (fun ls hl => ?_)
  refine lv_aload_n hx hb dX8_refuse_11 rfl (lv_at hl 1 rfl) ?_
  refine va_get (D := G.1) (ci := 8) (v := .ref a_this_offers) (C := RX8) (T := TX8) (N := 12) hx hb hts inX8 hown hK hP 0 rfl rfl 8 (by decide) lk53 (fun _ h9 => h9) rfl dX8_refuse_12 ?_
  refine va_get (D := G.1) (ci := 1) (v := .ref a_this_offers_terms) (C := RX1) (T := TX1) (N := 6) hx hb hts inX1 hown hK hP 1 rfl rfl 0 (by decide) lk95 (fun _ h9 => h9) rfl dX8_refuse_15 ?_
  refine lv_iconst (v := (0 : Int32)) hx hb dX8_refuse_18 (by decide) ?_
  refine va_put (D := G.1) (ci := 6) (v := .int (0 : Int32)) (ty := .int) (C := RX6) (T := TX6) (N := 3) hx hb hts inX6 tyX6 tyX6_ok nmX6 hown hK hP hD hS 2 rfl rfl 2 (by decide) lk99 (fun _ h9 => h9) rfl (by decide +kernel) rfl rfl (Nat.le_of_ble_eq_true rfl) dX8_refuse_19 (fun H locs hP hD hS => ?_)
  have hP : va_P G.1 vwCl [(a_this, .inr (8, [.ref a_this_text, .ref a_this_reader, .ref a_this_told, .ref a_this_draft, .ref a_this_now, .ref a_this_firstImage, .ref a_this_secondImage, .ref a_this_kept, .ref a_this_offers, .ref a_this_seen, .ref a_this_rents, .long v_traced])), (a_this_offers, .inr (1, [.ref a_this_offers_terms, .ref a_this_offers_prices, .ref a_this_offers_squareBits, .ref a_this_offers_clashes, .ref a_this_offers_starBits, .ref a_this_offers_heldBits])), (a_this_offers_terms, .inr (6, [.int v_offers_terms_most, .ref a_this_offers_terms_parts, .int (0 : Int32)]))] H := hP
  have hD : va_D A [(a_this, .inr (8, [.ref a_this_text, .ref a_this_reader, .ref a_this_told, .ref a_this_draft, .ref a_this_now, .ref a_this_firstImage, .ref a_this_secondImage, .ref a_this_kept, .ref a_this_offers, .ref a_this_seen, .ref a_this_rents, .long v_traced])), (a_this_offers, .inr (1, [.ref a_this_offers_terms, .ref a_this_offers_prices, .ref a_this_offers_squareBits, .ref a_this_offers_clashes, .ref a_this_offers_starBits, .ref a_this_offers_heldBits])), (a_this_offers_terms, .inr (6, [.int v_offers_terms_most, .ref a_this_offers_terms_parts, .int (0 : Int32)]))] := hD
  refine lv_iload_n hx hb dX8_refuse_22 rfl (lv_at hl 0 rfl) ?_
  obtain ⟨hr0, hr1⟩ := so2 hf
  subst hr0
  subst hr1
  rw [← hQ]
  exact W.iret (v := v_offers_terms_size) hx hb hr (fun t ht hW => ⟨⟨rfl, by rw [ht]; exact hP⟩, hS.F ht⟩) hS.2.2 dX8_refuse_23
theorem hd_X1_bestSet : yX1_bestSet.cls = RX1 ∧ yX1_bestSet.cls ≠ "java/lang/invoke/MethodHandle" ∧ yX1_bestSet.cls ≠ "java/lang/invoke/VarHandle" ∧ (parseMethodDescriptor yX1_bestSet.desc).map (fun d => d.parameters.length) = some 3 := by decide +kernel
def f_X8_letting  (v_told_squares : Int32) (v_told_stars : Int32) (v_told_paces : (Nat → Int32)) (v_told_starts : (Nat → Int32)) (v_offers_starBits : (Nat → Int32)) (v_offers_terms_size : Int32) (v_offers_prices : (Nat → Int32)) (v_offers_clashes : (Nat → Int32)) (v_offers_heldBits : (Nat → Int32)) (v_offers_terms_parts : (Nat → Int32)) (v_offers_squareBits : (Nat → Int32)) (g1 : Int32) (g2 : Int32) (g3 : Int32) : Option (Int32 × (Nat → Int32) × (Nat → Int32)) := bd1 (f_X8_areNights (g1) (g2)) fun r10 => if r10 = (0 : Int32) then (some ((-1 : Int32), v_offers_starBits, v_offers_heldBits)) else (bd1 (f_X8_isWithin (g3) ((0 : Int32)) ((1 : Int32))) fun r12 => if r12 = (0 : Int32) then (some ((-1 : Int32), v_offers_starBits, v_offers_heldBits)) else (bd3 (f_X1_bestSet (v_told_squares) (v_told_stars) (v_told_paces) (v_told_starts) (v_offers_starBits) (v_offers_terms_size) (v_offers_prices) (v_offers_clashes) (v_offers_heldBits) (v_offers_terms_parts) (v_offers_squareBits) (g1) (g2)) fun r14 w15 w16 => if g3 = (0 : Int32) then (bd1 (f_X1_priceOf (v_offers_terms_size) (v_offers_prices) (r14)) fun r18 => some (r18, w15, w16)) else (some (r14, w15, w16))))
abbrev rm_X8_letting : Room := { frames := 5, cells := 0, slots := 0, locals := 118 }
set_option maxHeartbeats 4000000 in
set_option maxRecDepth 100000 in
theorem c_X8_letting (l : Launch) (G : zG) (sz : Nat) (a_this : Nat) (a_this_offers : Nat) (a_this_told : Nat) (a_this_told_paces : Nat) (a_this_told_starts : Nat) (a_this_offers_starBits : Nat) (a_this_offers_terms : Nat) (a_this_offers_prices : Nat) (a_this_offers_clashes : Nat) (a_this_offers_heldBits : Nat) (a_this_offers_terms_parts : Nat) (a_this_offers_squareBits : Nat) (a_this_text : Nat) (a_this_reader : Nat) (a_this_draft : Nat) (a_this_now : Nat) (a_this_firstImage : Nat) (a_this_secondImage : Nat) (a_this_kept : Nat) (a_this_seen : Nat) (a_this_rents : Nat) (a_this_told_brights : Nat) (a_this_told_purses : Nat) (a_this_told_leases : Nat) (v_traced : Int64) (v_told_squares : Int32) (v_told_stars : Int32) (v_told_tenants : Int32) (v_told_paces : (Nat → Int32)) (v_told_starts : (Nat → Int32)) (v_offers_starBits : (Nat → Int32)) (v_offers_terms_most : Int32) (v_offers_terms_size : Int32) (v_offers_prices : (Nat → Int32)) (v_offers_clashes : (Nat → Int32)) (v_offers_heldBits : (Nat → Int32)) (v_offers_terms_parts : (Nat → Int32)) (v_offers_squareBits : (Nat → Int32)) (g1 : Int32) (g2 : Int32) (g3 : Int32) (R0 : Int32) (R1 : (Nat → Int32)) (R2 : (Nat → Int32)) (hf : f_X8_letting v_told_squares v_told_stars v_told_paces v_told_starts v_offers_starBits v_offers_terms_size v_offers_prices v_offers_clashes v_offers_heldBits v_offers_terms_parts v_offers_squareBits g1 g2 g3 = some (R0, R1, R2)) : Met l yX8_letting wsX8_letting rm_X8_letting (va_Pc [.ref a_this, .int g1, .int g2, .int g3] (zB G [(a_this, .inr (8, [.ref a_this_text, .ref a_this_reader, .ref a_this_told, .ref a_this_draft, .ref a_this_now, .ref a_this_firstImage, .ref a_this_secondImage, .ref a_this_kept, .ref a_this_offers, .ref a_this_seen, .ref a_this_rents, .long v_traced])), (a_this_offers, .inr (1, [.ref a_this_offers_terms, .ref a_this_offers_prices, .ref a_this_offers_squareBits, .ref a_this_offers_clashes, .ref a_this_offers_starBits, .ref a_this_offers_heldBits])), (a_this_told, .inr (5, [.int v_told_squares, .int v_told_stars, .ref a_this_told_starts, .ref a_this_told_paces, .ref a_this_told_brights, .int v_told_tenants, .ref a_this_told_purses, .ref a_this_told_leases])), (a_this_told_paces, .inl (G.2.1, 8, .inl v_told_paces)), (a_this_told_starts, .inl (G.2.1, 8, .inl v_told_starts)), (a_this_offers_starBits, .inl (G.2.1, 100, .inl v_offers_starBits)), (a_this_offers_terms, .inr (6, [.int v_offers_terms_most, .ref a_this_offers_terms_parts, .int v_offers_terms_size])), (a_this_offers_prices, .inl (G.2.1, 8, .inl v_offers_prices)), (a_this_offers_clashes, .inl (G.2.1, 8, .inl v_offers_clashes)), (a_this_offers_heldBits, .inl (G.2.1, 4, .inl v_offers_heldBits)), (a_this_offers_terms_parts, .inl (G.2.1, 50, .inl v_offers_terms_parts)), (a_this_offers_squareBits, .inl (G.2.1, 8, .inl v_offers_squareBits))] sz)) (zQ G (some (.int R0)) [(a_this, .inr (8, [.ref a_this_text, .ref a_this_reader, .ref a_this_told, .ref a_this_draft, .ref a_this_now, .ref a_this_firstImage, .ref a_this_secondImage, .ref a_this_kept, .ref a_this_offers, .ref a_this_seen, .ref a_this_rents, .long v_traced])), (a_this_offers, .inr (1, [.ref a_this_offers_terms, .ref a_this_offers_prices, .ref a_this_offers_squareBits, .ref a_this_offers_clashes, .ref a_this_offers_starBits, .ref a_this_offers_heldBits])), (a_this_told, .inr (5, [.int v_told_squares, .int v_told_stars, .ref a_this_told_starts, .ref a_this_told_paces, .ref a_this_told_brights, .int v_told_tenants, .ref a_this_told_purses, .ref a_this_told_leases])), (a_this_told_paces, .inl (G.2.1, 8, .inl v_told_paces)), (a_this_told_starts, .inl (G.2.1, 8, .inl v_told_starts)), (a_this_offers_starBits, .inl (G.2.1, 100, .inl R1)), (a_this_offers_terms, .inr (6, [.int v_offers_terms_most, .ref a_this_offers_terms_parts, .int v_offers_terms_size])), (a_this_offers_prices, .inl (G.2.1, 8, .inl v_offers_prices)), (a_this_offers_clashes, .inl (G.2.1, 8, .inl v_offers_clashes)), (a_this_offers_heldBits, .inl (G.2.1, 4, .inl R2)), (a_this_offers_terms_parts, .inl (G.2.1, 50, .inl v_offers_terms_parts)), (a_this_offers_squareBits, .inl (G.2.1, 8, .inl v_offers_squareBits))] (va_A [(a_this, .inr (8, [.ref a_this_text, .ref a_this_reader, .ref a_this_told, .ref a_this_draft, .ref a_this_now, .ref a_this_firstImage, .ref a_this_secondImage, .ref a_this_kept, .ref a_this_offers, .ref a_this_seen, .ref a_this_rents, .long v_traced])), (a_this_offers, .inr (1, [.ref a_this_offers_terms, .ref a_this_offers_prices, .ref a_this_offers_squareBits, .ref a_this_offers_clashes, .ref a_this_offers_starBits, .ref a_this_offers_heldBits])), (a_this_told, .inr (5, [.int v_told_squares, .int v_told_stars, .ref a_this_told_starts, .ref a_this_told_paces, .ref a_this_told_brights, .int v_told_tenants, .ref a_this_told_purses, .ref a_this_told_leases])), (a_this_told_paces, .inl (G.2.1, 8, .inl v_told_paces)), (a_this_told_starts, .inl (G.2.1, 8, .inl v_told_starts)), (a_this_offers_starBits, .inl (G.2.1, 100, .inl v_offers_starBits)), (a_this_offers_terms, .inr (6, [.int v_offers_terms_most, .ref a_this_offers_terms_parts, .int v_offers_terms_size])), (a_this_offers_prices, .inl (G.2.1, 8, .inl v_offers_prices)), (a_this_offers_clashes, .inl (G.2.1, 8, .inl v_offers_clashes)), (a_this_offers_heldBits, .inl (G.2.1, 4, .inl v_offers_heldBits)), (a_this_offers_terms_parts, .inl (G.2.1, 50, .inl v_offers_terms_parts)), (a_this_offers_squareBits, .inl (G.2.1, 8, .inl v_offers_squareBits))] sz)) 0 0 (va_A [(a_this, .inr (8, [.ref a_this_text, .ref a_this_reader, .ref a_this_told, .ref a_this_draft, .ref a_this_now, .ref a_this_firstImage, .ref a_this_secondImage, .ref a_this_kept, .ref a_this_offers, .ref a_this_seen, .ref a_this_rents, .long v_traced])), (a_this_offers, .inr (1, [.ref a_this_offers_terms, .ref a_this_offers_prices, .ref a_this_offers_squareBits, .ref a_this_offers_clashes, .ref a_this_offers_starBits, .ref a_this_offers_heldBits])), (a_this_told, .inr (5, [.int v_told_squares, .int v_told_stars, .ref a_this_told_starts, .ref a_this_told_paces, .ref a_this_told_brights, .int v_told_tenants, .ref a_this_told_purses, .ref a_this_told_leases])), (a_this_told_paces, .inl (G.2.1, 8, .inl v_told_paces)), (a_this_told_starts, .inl (G.2.1, 8, .inl v_told_starts)), (a_this_offers_starBits, .inl (G.2.1, 100, .inl v_offers_starBits)), (a_this_offers_terms, .inr (6, [.int v_offers_terms_most, .ref a_this_offers_terms_parts, .int v_offers_terms_size])), (a_this_offers_prices, .inl (G.2.1, 8, .inl v_offers_prices)), (a_this_offers_clashes, .inl (G.2.1, 8, .inl v_offers_clashes)), (a_this_offers_heldBits, .inl (G.2.1, 4, .inl v_offers_heldBits)), (a_this_offers_terms_parts, .inl (G.2.1, 50, .inl v_offers_terms_parts)), (a_this_offers_squareBits, .inl (G.2.1, 8, .inl v_offers_squareBits))] sz) := by
  refine Met.ofW (cc := cX8_letting) (maxL := 5) (ret := (some .int)) (by decide) rfl ?_
  intro p e s m args below meth c s₁ B hml hv
  obtain ⟨hargs, hsz, hP, hD0, hE⟩ := hv
  have hx := B.exec
  have hb := B.bytes
  have hr := B.returns
  have hts := atoms_spec (ws := wsX8_letting) B.pre
  have hown : s.vm.findClass RX8 = some m.cls := findClass_of_methodNamed B.named
  have hlocks := B.notSynchronized
  have hK := hE.1
  have hC : CallFix p m c cX8_letting 5 s args wsX8_letting RX8 := ⟨hx, hb, hml, hown, hts⟩
  have inX8 : ∀ w ∈ wsX80, w ∈ wsX8_letting := by decide +kernel
  have lk26 := hts (.fieldLink RX8 26 "SkyLeases" "told" "LSkyLeases$Sky;") (by decide +kernel)
  have lk53 := hts (.fieldLink RX8 53 "SkyLeases" "offers" "LSkyLeases$Offers;") (by decide +kernel)
  subst hsz
  have hD := hD0.self (sz := s.heap.size)
  generalize hAe : va_A [(a_this, .inr (8, [.ref a_this_text, .ref a_this_reader, .ref a_this_told, .ref a_this_draft, .ref a_this_now, .ref a_this_firstImage, .ref a_this_secondImage, .ref a_this_kept, .ref a_this_offers, .ref a_this_seen, .ref a_this_rents, .long v_traced])), (a_this_offers, .inr (1, [.ref a_this_offers_terms, .ref a_this_offers_prices, .ref a_this_offers_squareBits, .ref a_this_offers_clashes, .ref a_this_offers_starBits, .ref a_this_offers_heldBits])), (a_this_told, .inr (5, [.int v_told_squares, .int v_told_stars, .ref a_this_told_starts, .ref a_this_told_paces, .ref a_this_told_brights, .int v_told_tenants, .ref a_this_told_purses, .ref a_this_told_leases])), (a_this_told_paces, .inl (G.2.1, 8, .inl v_told_paces)), (a_this_told_starts, .inl (G.2.1, 8, .inl v_told_starts)), (a_this_offers_starBits, .inl (G.2.1, 100, .inl v_offers_starBits)), (a_this_offers_terms, .inr (6, [.int v_offers_terms_most, .ref a_this_offers_terms_parts, .int v_offers_terms_size])), (a_this_offers_prices, .inl (G.2.1, 8, .inl v_offers_prices)), (a_this_offers_clashes, .inl (G.2.1, 8, .inl v_offers_clashes)), (a_this_offers_heldBits, .inl (G.2.1, 4, .inl v_offers_heldBits)), (a_this_offers_terms_parts, .inl (G.2.1, 50, .inl v_offers_terms_parts)), (a_this_offers_squareBits, .inl (G.2.1, 8, .inl v_offers_squareBits))] s.heap.size = A at hD ⊢
  have hA : ∀ q : Nat, s.heap.size ≤ q → A q := fun q h => by rw [← hAe]; exact Or.inr h
  have hS : va_S A s.heap s.heap [] := va_S.rf
  have hP : va_P G.1 vwCl [(a_this, .inr (8, [.ref a_this_text, .ref a_this_reader, .ref a_this_told, .ref a_this_draft, .ref a_this_now, .ref a_this_firstImage, .ref a_this_secondImage, .ref a_this_kept, .ref a_this_offers, .ref a_this_seen, .ref a_this_rents, .long v_traced])), (a_this_offers, .inr (1, [.ref a_this_offers_terms, .ref a_this_offers_prices, .ref a_this_offers_squareBits, .ref a_this_offers_clashes, .ref a_this_offers_starBits, .ref a_this_offers_heldBits])), (a_this_told, .inr (5, [.int v_told_squares, .int v_told_stars, .ref a_this_told_starts, .ref a_this_told_paces, .ref a_this_told_brights, .int v_told_tenants, .ref a_this_told_purses, .ref a_this_told_leases])), (a_this_told_paces, .inl (G.2.1, 8, .inl v_told_paces)), (a_this_told_starts, .inl (G.2.1, 8, .inl v_told_starts)), (a_this_offers_starBits, .inl (G.2.1, 100, .inl v_offers_starBits)), (a_this_offers_terms, .inr (6, [.int v_offers_terms_most, .ref a_this_offers_terms_parts, .int v_offers_terms_size])), (a_this_offers_prices, .inl (G.2.1, 8, .inl v_offers_prices)), (a_this_offers_clashes, .inl (G.2.1, 8, .inl v_offers_clashes)), (a_this_offers_heldBits, .inl (G.2.1, 4, .inl v_offers_heldBits)), (a_this_offers_terms_parts, .inl (G.2.1, 50, .inl v_offers_terms_parts)), (a_this_offers_squareBits, .inl (G.2.1, 8, .inl v_offers_squareBits))] s.heap := hP
  have hl := lv_entry ([.ref a_this, .int g1, .int g2, .int g3]) (n := 5) (Nat.le_of_ble_eq_true rfl)
  have hent : entryFrame m args 5 = F0 m 0 ((lg_sl ([.ref a_this, .int g1, .int g2, .int g3]) ++ List.replicate (5 - (lg_sl ([.ref a_this, .int g1, .int g2, .int g3])).length) Slot.unset).toArray) [] := by rw [hargs]; exact lg_entry_eq m [.ref a_this, .int g1, .int g2, .int g3] 5
  refine W.eq hent ?_
  clear hent
  generalize (lg_sl ([.ref a_this, .int g1, .int g2, .int g3]) ++ List.replicate (5 - (lg_sl ([.ref a_this, .int g1, .int g2, .int g3])).length) Slot.unset).toArray = ls at hl ⊢
  have hl : lv_has ls 5 [(0, .ref a_this), (1, .int g1), (2, .int g2), (3, .int g3)] := hl
  generalize hQ : MQ below _ args s 0 0 _ = QQ
  change W p l e rm_X8_letting s m args below meth c s.heap [] 0 0 QQ _
  have hSH := hS
  unfold f_X8_letting at hf
  refine lv_iload_n hx hb dX8_letting_0 rfl (lv_at hl 1 rfl) ?_
  refine lv_iload_n hx hb dX8_letting_1 rfl (lv_at hl 2 rfl) ?_
  obtain ⟨r10, hu, hf⟩ := bd1_some hf
  refine zRi (va_runS (As := [.int g1, .int g2]) (rest := []) hC (c_X8_areNights l G (g1) (g2) r10 hu) (va_cwS 2 hts gX8_letting_X8_areNights rfl rfl rfl hd_X8_areNights.2 ⟨(Nat.le_of_ble_eq_true rfl), (Nat.le_of_ble_eq_true rfl)⟩) (zPS hE hP [] rfl) rfl rfl hl.1 rfl (lv_room (Nat.le_of_ble_eq_true rfl)) dX8_letting_2 ⟨Nat.zero_le _, Nat.zero_le _⟩) ?_
  refine lv_if_eq (tgt := 17) hx hb dX8_letting_5 (by decide) (fun hc11 => ?_) (fun hc11 => ?_)
  · have hf := if_t hf hc11
    refine lv_iconst (v := (-1 : Int32)) hx hb dX8_letting_17 (by decide) ?_
    obtain ⟨hr0, hr1, hr2⟩ := so3 hf
    subst hr0
    subst hr1
    subst hr2
    rw [← hQ]
    exact W.iret (v := (-1 : Int32)) hx hb hr (fun t ht hW => ⟨⟨rfl, by rw [ht]; exact hP⟩, hS.F ht⟩) hS.2.2 dX8_letting_18
  · have hf := if_f hf hc11
    refine lv_iload_n hx hb dX8_letting_8 rfl (lv_at hl 3 rfl) ?_
    refine lv_iconst (v := (0 : Int32)) hx hb dX8_letting_9 (by decide) ?_
    refine lv_iconst (v := (1 : Int32)) hx hb dX8_letting_10 (by decide) ?_
    obtain ⟨r12, hu, hf⟩ := bd1_some hf
    refine zRi (va_runS (As := [.int g3, .int (0 : Int32), .int (1 : Int32)]) (rest := []) hC (c_X8_isWithin l G (g3) ((0 : Int32)) ((1 : Int32)) r12 hu) (va_cwS 3 hts gX8_letting_X8_isWithin rfl rfl rfl hd_X8_isWithin.2 ⟨(Nat.le_of_ble_eq_true rfl), (Nat.le_of_ble_eq_true rfl)⟩) (zPS hE hP [] rfl) rfl rfl hl.1 rfl (lv_room (Nat.le_of_ble_eq_true rfl)) dX8_letting_11 ⟨Nat.zero_le _, Nat.zero_le _⟩) ?_
    refine lv_if_ne (tgt := 19) hx hb dX8_letting_14 (by decide) (fun hc13 => ?_) (fun hc13 => ?_)
    · have hf := if_f hf hc13
      refine lv_aload_n hx hb dX8_letting_19 rfl (lv_at hl 0 rfl) ?_
      refine va_get (D := G.1) (ci := 8) (v := .ref a_this_offers) (C := RX8) (T := TX8) (N := 12) hx hb hts inX8 hown hK hP 0 rfl rfl 8 (by decide) lk53 (fun _ h9 => h9) rfl dX8_letting_20 ?_
      refine lv_aload_n hx hb dX8_letting_23 rfl (lv_at hl 0 rfl) ?_
      refine va_get (D := G.1) (ci := 8) (v := .ref a_this_told) (C := RX8) (T := TX8) (N := 12) hx hb hts inX8 hown hK hP 0 rfl rfl 2 (by decide) lk26 (fun _ h9 => h9) rfl dX8_letting_24 ?_
      refine lv_iload_n hx hb dX8_letting_27 rfl (lv_at hl 1 rfl) ?_
      refine lv_iload_n hx hb dX8_letting_28 rfl (lv_at hl 2 rfl) ?_
      obtain ⟨r14, w15, w16, hu, hf⟩ := bd3_some hf
      refine zWi (wr := [(a_this, .inr (8, [.ref a_this_text, .ref a_this_reader, .ref a_this_told, .ref a_this_draft, .ref a_this_now, .ref a_this_firstImage, .ref a_this_secondImage, .ref a_this_kept, .ref a_this_offers, .ref a_this_seen, .ref a_this_rents, .long v_traced]))]) (ws2 := [(a_this, .inr (8, [.ref a_this_text, .ref a_this_reader, .ref a_this_told, .ref a_this_draft, .ref a_this_now, .ref a_this_firstImage, .ref a_this_secondImage, .ref a_this_kept, .ref a_this_offers, .ref a_this_seen, .ref a_this_rents, .long v_traced])), (a_this_offers, .inr (1, [.ref a_this_offers_terms, .ref a_this_offers_prices, .ref a_this_offers_squareBits, .ref a_this_offers_clashes, .ref a_this_offers_starBits, .ref a_this_offers_heldBits])), (a_this_told, .inr (5, [.int v_told_squares, .int v_told_stars, .ref a_this_told_starts, .ref a_this_told_paces, .ref a_this_told_brights, .int v_told_tenants, .ref a_this_told_purses, .ref a_this_told_leases])), (a_this_told_paces, .inl (G.2.1, 8, .inl v_told_paces)), (a_this_told_starts, .inl (G.2.1, 8, .inl v_told_starts)), (a_this_offers_starBits, .inl (G.2.1, 100, .inl w15)), (a_this_offers_terms, .inr (6, [.int v_offers_terms_most, .ref a_this_offers_terms_parts, .int v_offers_terms_size])), (a_this_offers_prices, .inl (G.2.1, 8, .inl v_offers_prices)), (a_this_offers_clashes, .inl (G.2.1, 8, .inl v_offers_clashes)), (a_this_offers_heldBits, .inl (G.2.1, 4, .inl w16)), (a_this_offers_terms_parts, .inl (G.2.1, 50, .inl v_offers_terms_parts)), (a_this_offers_squareBits, .inl (G.2.1, 8, .inl v_offers_squareBits))]) (va_runV (As := [.ref a_this_told, .int g1, .int g2]) (rest := []) hC (c_X1_bestSet l G _ a_this_offers a_this_told a_this_told_paces a_this_told_starts a_this_offers_starBits a_this_offers_terms a_this_offers_prices a_this_offers_clashes a_this_offers_heldBits a_this_offers_terms_parts a_this_offers_squareBits a_this_told_brights a_this_told_purses a_this_told_leases (v_told_squares) (v_told_stars) (v_told_tenants) (v_told_paces) (v_told_starts) (v_offers_starBits) (v_offers_terms_most) (v_offers_terms_size) (v_offers_prices) (v_offers_clashes) (v_offers_heldBits) (v_offers_terms_parts) (v_offers_squareBits) (g1) (g2) r14 w15 w16 hu) (cwV 3 hts gX8_letting_X1_bestSet rfl rfl rfl hd_X1_bestSet ⟨(Nat.le_of_ble_eq_true rfl), (Nat.le_of_ble_eq_true rfl)⟩) (zPVw hE hP hD [1, 2, 3, 4, 5, 6, 7, 8, 9, 10, 11] rfl rfl 1 rfl rfl) rfl rfl hl.1 rfl (lv_room (Nat.le_of_ble_eq_true rfl)) dX8_letting_29 ⟨Nat.zero_le _, Nat.zero_le _⟩) hP hD hS hA [1, 2, 3, 4, 5, 6, 7, 8, 9, 10, 11] [0] [0, 1, 2, 3, 4, 5, 6, 7, 8, 9, 10, 11] rfl rfl rfl rfl (by decide) rfl rfl rfl (fun H locs hP hD hS => ?_)
      refine lv_istore (lv' := [(4, .int r14), (0, .ref a_this), (1, .int g1), (2, .int g2), (3, .int g3)]) hx hb dX8_letting_32 hl (by decide) rfl (fun ls hl => ?_)
      refine lv_iload_n hx hb dX8_letting_34 rfl (lv_at hl 4 rfl) ?_
      refine lv_if_ne (tgt := 50) hx hb dX8_letting_35 (by decide) (fun hc17 => ?_) (fun hc17 => ?_)
      · have hf := if_f hf hc17
        refine lv_iload hx hb dX8_letting_50 (lv_at hl 0 rfl) ?_
        obtain ⟨hr0, hr1, hr2⟩ := so3 hf
        subst hr0
        subst hr1
        subst hr2
        rw [← hQ]
        exact W.iret (v := r14) hx hb hr (fun t ht hW => ⟨⟨rfl, by rw [ht]; exact hP⟩, hS.F ht⟩) hS.2.2 dX8_letting_52
      · have hf := if_t hf hc17
        refine lv_aload_n hx hb dX8_letting_38 rfl (lv_at hl 1 rfl) ?_
        refine va_get (D := G.1) (ci := 8) (v := .ref a_this_offers) (C := RX8) (T := TX8) (N := 12) hx hb hts inX8 hown hK hP 0 rfl rfl 8 (by decide) lk53 (fun _ h9 => h9) rfl dX8_letting_39 ?_
        refine lv_iload hx hb dX8_letting_42 (lv_at hl 0 rfl) ?_
        obtain ⟨r18, hu, hf⟩ := bd1_some hf
        refine zRi (va_runV (As := [.int r14]) (rest := []) hC (c_X1_priceOf l G a_this_offers a_this_offers_terms a_this_offers_prices a_this_offers_squareBits a_this_offers_clashes a_this_offers_starBits a_this_offers_heldBits a_this_offers_terms_parts (v_offers_terms_most) (v_offers_terms_size) (v_offers_prices) (r14) r18 hu) (cwV 1 hts gX8_letting_X1_priceOf rfl rfl rfl hd_X1_priceOf ⟨(Nat.le_of_ble_eq_true rfl), (Nat.le_of_ble_eq_true rfl)⟩) (zPV hE hP [1, 6, 7] rfl 1 rfl rfl) rfl rfl hl.1 rfl (lv_room (Nat.le_of_ble_eq_true rfl)) dX8_letting_44 ⟨Nat.zero_le _, Nat.zero_le _⟩) ?_
        refine lv_goto (tgt := 52) hx hb dX8_letting_47 (by decide) ?_
        obtain ⟨hr0, hr1, hr2⟩ := so3 hf
        subst hr0
        subst hr1
        subst hr2
        rw [← hQ]
        exact W.iret (v := r18) hx hb hr (fun t ht hW => ⟨⟨rfl, by rw [ht]; exact hP⟩, hS.F ht⟩) hS.2.2 dX8_letting_52
    · have hf := if_t hf hc13
      refine lv_iconst (v := (-1 : Int32)) hx hb dX8_letting_17 (by decide) ?_
      obtain ⟨hr0, hr1, hr2⟩ := so3 hf
      subst hr0
      subst hr1
      subst hr2
      rw [← hQ]
      exact W.iret (v := (-1 : Int32)) hx hb hr (fun t ht hW => ⟨⟨rfl, by rw [ht]; exact hP⟩, hS.F ht⟩) hS.2.2 dX8_letting_18
theorem hd_X4_add : yX4_add.cls = RX4 ∧ yX4_add.cls ≠ "java/lang/invoke/MethodHandle" ∧ yX4_add.cls ≠ "java/lang/invoke/VarHandle" ∧ (parseMethodDescriptor yX4_add.desc).map (fun d => d.parameters.length) = some 2 := by decide +kernel
def f_X8_saw  (v_told_squares : Int32) (v_told_stars : Int32) (v_seen_size : Int32) (v_seen_stars : (Nat → Int32)) (v_seen_squares : (Nat → Int32)) (g1 : Int32) (g2 : Int32) : Option (Int32 × Int32 × (Nat → Int32) × (Nat → Int32)) := bd1 (f_X5_hasStar (v_told_stars) (g1)) fun r10 => if r10 = (0 : Int32) then (some ((-1 : Int32), v_seen_size, v_seen_stars, v_seen_squares)) else (bd1 (f_X5_hasSquare (v_told_squares) (g2)) fun r12 => if r12 = (0 : Int32) then (some ((-1 : Int32), v_seen_size, v_seen_stars, v_seen_squares)) else (bd1 (f_X4_isFull (v_seen_size)) fun r14 => if r14 = (0 : Int32) then (bd3 (f_X4_add (v_seen_size) (v_seen_stars) (v_seen_squares) (g1) (g2)) fun w16 w17 w18 => some (w16, w16, w17, w18)) else (some ((-3 : Int32), v_seen_size, v_seen_stars, v_seen_squares))))
abbrev rm_X8_saw : Room := { frames := 2, cells := 0, slots := 0, locals := 42 }
set_option maxHeartbeats 4000000 in
set_option maxRecDepth 100000 in
theorem c_X8_saw (l : Launch) (G : zG) (sz : Nat) (a_this : Nat) (a_this_told : Nat) (a_this_seen : Nat) (a_this_seen_stars : Nat) (a_this_seen_squares : Nat) (a_this_text : Nat) (a_this_reader : Nat) (a_this_draft : Nat) (a_this_now : Nat) (a_this_firstImage : Nat) (a_this_secondImage : Nat) (a_this_kept : Nat) (a_this_offers : Nat) (a_this_rents : Nat) (a_this_told_starts : Nat) (a_this_told_paces : Nat) (a_this_told_brights : Nat) (a_this_told_purses : Nat) (a_this_told_leases : Nat) (v_traced : Int64) (v_told_squares : Int32) (v_told_stars : Int32) (v_told_tenants : Int32) (v_seen_size : Int32) (v_seen_stars : (Nat → Int32)) (v_seen_squares : (Nat → Int32)) (g1 : Int32) (g2 : Int32) (R0 : Int32) (R1 : Int32) (R2 : (Nat → Int32)) (R3 : (Nat → Int32)) (hf : f_X8_saw v_told_squares v_told_stars v_seen_size v_seen_stars v_seen_squares g1 g2 = some (R0, R1, R2, R3)) : Met l yX8_saw wsX8_saw rm_X8_saw (va_Pc [.ref a_this, .int g1, .int g2] (zB G [(a_this, .inr (8, [.ref a_this_text, .ref a_this_reader, .ref a_this_told, .ref a_this_draft, .ref a_this_now, .ref a_this_firstImage, .ref a_this_secondImage, .ref a_this_kept, .ref a_this_offers, .ref a_this_seen, .ref a_this_rents, .long v_traced])), (a_this_told, .inr (5, [.int v_told_squares, .int v_told_stars, .ref a_this_told_starts, .ref a_this_told_paces, .ref a_this_told_brights, .int v_told_tenants, .ref a_this_told_purses, .ref a_this_told_leases])), (a_this_seen, .inr (4, [.int v_seen_size, .ref a_this_seen_stars, .ref a_this_seen_squares])), (a_this_seen_stars, .inl (G.2.1, 8, .inl v_seen_stars)), (a_this_seen_squares, .inl (G.2.1, 8, .inl v_seen_squares))] sz)) (zQ G (some (.int R0)) [(a_this, .inr (8, [.ref a_this_text, .ref a_this_reader, .ref a_this_told, .ref a_this_draft, .ref a_this_now, .ref a_this_firstImage, .ref a_this_secondImage, .ref a_this_kept, .ref a_this_offers, .ref a_this_seen, .ref a_this_rents, .long v_traced])), (a_this_told, .inr (5, [.int v_told_squares, .int v_told_stars, .ref a_this_told_starts, .ref a_this_told_paces, .ref a_this_told_brights, .int v_told_tenants, .ref a_this_told_purses, .ref a_this_told_leases])), (a_this_seen, .inr (4, [.int R1, .ref a_this_seen_stars, .ref a_this_seen_squares])), (a_this_seen_stars, .inl (G.2.1, 8, .inl R2)), (a_this_seen_squares, .inl (G.2.1, 8, .inl R3))] (va_A [(a_this, .inr (8, [.ref a_this_text, .ref a_this_reader, .ref a_this_told, .ref a_this_draft, .ref a_this_now, .ref a_this_firstImage, .ref a_this_secondImage, .ref a_this_kept, .ref a_this_offers, .ref a_this_seen, .ref a_this_rents, .long v_traced])), (a_this_told, .inr (5, [.int v_told_squares, .int v_told_stars, .ref a_this_told_starts, .ref a_this_told_paces, .ref a_this_told_brights, .int v_told_tenants, .ref a_this_told_purses, .ref a_this_told_leases])), (a_this_seen, .inr (4, [.int v_seen_size, .ref a_this_seen_stars, .ref a_this_seen_squares])), (a_this_seen_stars, .inl (G.2.1, 8, .inl v_seen_stars)), (a_this_seen_squares, .inl (G.2.1, 8, .inl v_seen_squares))] sz)) 0 0 (va_A [(a_this, .inr (8, [.ref a_this_text, .ref a_this_reader, .ref a_this_told, .ref a_this_draft, .ref a_this_now, .ref a_this_firstImage, .ref a_this_secondImage, .ref a_this_kept, .ref a_this_offers, .ref a_this_seen, .ref a_this_rents, .long v_traced])), (a_this_told, .inr (5, [.int v_told_squares, .int v_told_stars, .ref a_this_told_starts, .ref a_this_told_paces, .ref a_this_told_brights, .int v_told_tenants, .ref a_this_told_purses, .ref a_this_told_leases])), (a_this_seen, .inr (4, [.int v_seen_size, .ref a_this_seen_stars, .ref a_this_seen_squares])), (a_this_seen_stars, .inl (G.2.1, 8, .inl v_seen_stars)), (a_this_seen_squares, .inl (G.2.1, 8, .inl v_seen_squares))] sz) := by
  refine Met.ofW (cc := cX8_saw) (maxL := 3) (ret := (some .int)) (by decide) rfl ?_
  intro p e s m args below meth c s₁ B hml hv
  obtain ⟨hargs, hsz, hP, hD0, hE⟩ := hv
  have hx := B.exec
  have hb := B.bytes
  have hr := B.returns
  have hts := atoms_spec (ws := wsX8_saw) B.pre
  have hown : s.vm.findClass RX8 = some m.cls := findClass_of_methodNamed B.named
  have hlocks := B.notSynchronized
  have hK := hE.1
  have hC : CallFix p m c cX8_saw 3 s args wsX8_saw RX8 := ⟨hx, hb, hml, hown, hts⟩
  have inX4 : ∀ w ∈ wsX40, w ∈ wsX8_saw := by decide +kernel
  have inX8 : ∀ w ∈ wsX80, w ∈ wsX8_saw := by decide +kernel
  have lk26 := hts (.fieldLink RX8 26 "SkyLeases" "told" "LSkyLeases$Sky;") (by decide +kernel)
  have lk60 := hts (.fieldLink RX8 60 "SkyLeases" "seen" "LSkyLeases$Seen;") (by decide +kernel)
  have lk104 := hts (.fieldLink RX8 104 "SkyLeases$Seen" "size" "I") (by decide +kernel)
  subst hsz
  have hD := hD0.self (sz := s.heap.size)
  generalize hAe : va_A [(a_this, .inr (8, [.ref a_this_text, .ref a_this_reader, .ref a_this_told, .ref a_this_draft, .ref a_this_now, .ref a_this_firstImage, .ref a_this_secondImage, .ref a_this_kept, .ref a_this_offers, .ref a_this_seen, .ref a_this_rents, .long v_traced])), (a_this_told, .inr (5, [.int v_told_squares, .int v_told_stars, .ref a_this_told_starts, .ref a_this_told_paces, .ref a_this_told_brights, .int v_told_tenants, .ref a_this_told_purses, .ref a_this_told_leases])), (a_this_seen, .inr (4, [.int v_seen_size, .ref a_this_seen_stars, .ref a_this_seen_squares])), (a_this_seen_stars, .inl (G.2.1, 8, .inl v_seen_stars)), (a_this_seen_squares, .inl (G.2.1, 8, .inl v_seen_squares))] s.heap.size = A at hD ⊢
  have hA : ∀ q : Nat, s.heap.size ≤ q → A q := fun q h => by rw [← hAe]; exact Or.inr h
  have hS : va_S A s.heap s.heap [] := va_S.rf
  have hP : va_P G.1 vwCl [(a_this, .inr (8, [.ref a_this_text, .ref a_this_reader, .ref a_this_told, .ref a_this_draft, .ref a_this_now, .ref a_this_firstImage, .ref a_this_secondImage, .ref a_this_kept, .ref a_this_offers, .ref a_this_seen, .ref a_this_rents, .long v_traced])), (a_this_told, .inr (5, [.int v_told_squares, .int v_told_stars, .ref a_this_told_starts, .ref a_this_told_paces, .ref a_this_told_brights, .int v_told_tenants, .ref a_this_told_purses, .ref a_this_told_leases])), (a_this_seen, .inr (4, [.int v_seen_size, .ref a_this_seen_stars, .ref a_this_seen_squares])), (a_this_seen_stars, .inl (G.2.1, 8, .inl v_seen_stars)), (a_this_seen_squares, .inl (G.2.1, 8, .inl v_seen_squares))] s.heap := hP
  have hl := lv_entry ([.ref a_this, .int g1, .int g2]) (n := 3) (Nat.le_of_ble_eq_true rfl)
  have hent : entryFrame m args 3 = F0 m 0 ((lg_sl ([.ref a_this, .int g1, .int g2]) ++ List.replicate (3 - (lg_sl ([.ref a_this, .int g1, .int g2])).length) Slot.unset).toArray) [] := by rw [hargs]; exact lg_entry_eq m [.ref a_this, .int g1, .int g2] 3
  refine W.eq hent ?_
  clear hent
  generalize (lg_sl ([.ref a_this, .int g1, .int g2]) ++ List.replicate (3 - (lg_sl ([.ref a_this, .int g1, .int g2])).length) Slot.unset).toArray = ls at hl ⊢
  have hl : lv_has ls 3 [(0, .ref a_this), (1, .int g1), (2, .int g2)] := hl
  generalize hQ : MQ below _ args s 0 0 _ = QQ
  change W p l e rm_X8_saw s m args below meth c s.heap [] 0 0 QQ _
  have hSH := hS
  unfold f_X8_saw at hf
  refine lv_aload_n hx hb dX8_saw_0 rfl (lv_at hl 0 rfl) ?_
  refine va_get (D := G.1) (ci := 8) (v := .ref a_this_told) (C := RX8) (T := TX8) (N := 12) hx hb hts inX8 hown hK hP 0 rfl rfl 2 (by decide) lk26 (fun _ h9 => h9) rfl dX8_saw_1 ?_
  refine lv_iload_n hx hb dX8_saw_4 rfl (lv_at hl 1 rfl) ?_
  obtain ⟨r10, hu, hf⟩ := bd1_some hf
  refine zRi (va_runV (As := [.int g1]) (rest := []) hC (c_X5_hasStar l G a_this_told a_this_told_starts a_this_told_paces a_this_told_brights a_this_told_purses a_this_told_leases (v_told_squares) (v_told_stars) (v_told_tenants) (g1) r10 hu) (cwV 1 hts gX8_saw_X5_hasStar rfl rfl rfl hd_X5_hasStar ⟨(Nat.le_of_ble_eq_true rfl), (Nat.le_of_ble_eq_true rfl)⟩) (zPV hE hP [1] rfl 1 rfl rfl) rfl rfl hl.1 rfl (lv_room (Nat.le_of_ble_eq_true rfl)) dX8_saw_5 ⟨Nat.zero_le _, Nat.zero_le _⟩) ?_
  refine lv_if_eq (tgt := 22) hx hb dX8_saw_8 (by decide) (fun hc11 => ?_) (fun hc11 => ?_)
  · have hf := if_t hf hc11
    refine lv_iconst (v := (-1 : Int32)) hx hb dX8_saw_22 (by decide) ?_
    obtain ⟨hr0, hr1, hr2, hr3⟩ := so4 hf
    subst hr0
    subst hr1
    subst hr2
    subst hr3
    rw [← hQ]
    exact W.iret (v := (-1 : Int32)) hx hb hr (fun t ht hW => ⟨⟨rfl, by rw [ht]; exact hP⟩, hS.F ht⟩) hS.2.2 dX8_saw_23
  · have hf := if_f hf hc11
    refine lv_aload_n hx hb dX8_saw_11 rfl (lv_at hl 0 rfl) ?_
    refine va_get (D := G.1) (ci := 8) (v := .ref a_this_told) (C := RX8) (T := TX8) (N := 12) hx hb hts inX8 hown hK hP 0 rfl rfl 2 (by decide) lk26 (fun _ h9 => h9) rfl dX8_saw_12 ?_
    refine lv_iload_n hx hb dX8_saw_15 rfl (lv_at hl 2 rfl) ?_
    obtain ⟨r12, hu, hf⟩ := bd1_some hf
    refine zRi (va_runV (As := [.int g2]) (rest := []) hC (c_X5_hasSquare l G a_this_told a_this_told_starts a_this_told_paces a_this_told_brights a_this_told_purses a_this_told_leases (v_told_squares) (v_told_stars) (v_told_tenants) (g2) r12 hu) (cwV 1 hts gX8_saw_X5_hasSquare rfl rfl rfl hd_X5_hasSquare ⟨(Nat.le_of_ble_eq_true rfl), (Nat.le_of_ble_eq_true rfl)⟩) (zPV hE hP [1] rfl 1 rfl rfl) rfl rfl hl.1 rfl (lv_room (Nat.le_of_ble_eq_true rfl)) dX8_saw_16 ⟨Nat.zero_le _, Nat.zero_le _⟩) ?_
    refine lv_if_ne (tgt := 24) hx hb dX8_saw_19 (by decide) (fun hc13 => ?_) (fun hc13 => ?_)
    · have hf := if_f hf hc13
      refine lv_aload_n hx hb dX8_saw_24 rfl (lv_at hl 0 rfl) ?_
      refine va_get (D := G.1) (ci := 8) (v := .ref a_this_seen) (C := RX8) (T := TX8) (N := 12) hx hb hts inX8 hown hK hP 0 rfl rfl 9 (by decide) lk60 (fun _ h9 => h9) rfl dX8_saw_25 ?_
      obtain ⟨r14, hu, hf⟩ := bd1_some hf
      refine zRi (va_runV (As := []) (rest := []) hC (c_X4_isFull l G a_this_seen a_this_seen_stars a_this_seen_squares (v_seen_size) r14 hu) (cwV 0 hts gX8_saw_X4_isFull rfl rfl rfl hd_X4_isFull ⟨(Nat.le_of_ble_eq_true rfl), (Nat.le_of_ble_eq_true rfl)⟩) (zPV hE hP [2] rfl 2 rfl rfl) rfl rfl hl.1 rfl (lv_room (Nat.le_of_ble_eq_true rfl)) dX8_saw_28 ⟨Nat.zero_le _, Nat.zero_le _⟩) ?_
      refine lv_if_eq (tgt := 37) hx hb dX8_saw_31 (by decide) (fun hc15 => ?_) (fun hc15 => ?_)
      · have hf := if_t hf hc15
        refine lv_aload_n hx hb dX8_saw_37 rfl (lv_at hl 0 rfl) ?_
        refine va_get (D := G.1) (ci := 8) (v := .ref a_this_seen) (C := RX8) (T := TX8) (N := 12) hx hb hts inX8 hown hK hP 0 rfl rfl 9 (by decide) lk60 (fun _ h9 => h9) rfl dX8_saw_38 ?_
        refine lv_iload_n hx hb dX8_saw_41 rfl (lv_at hl 1 rfl) ?_
        refine lv_iload_n hx hb dX8_saw_42 rfl (lv_at hl 2 rfl) ?_
        obtain ⟨w16, w17, w18, hu, hf⟩ := bd3_some hf
        refine zWn (wr := [(a_this, .inr (8, [.ref a_this_text, .ref a_this_reader, .ref a_this_told, .ref a_this_draft, .ref a_this_now, .ref a_this_firstImage, .ref a_this_secondImage, .ref a_this_kept, .ref a_this_offers, .ref a_this_seen, .ref a_this_rents, .long v_traced])), (a_this_told, .inr (5, [.int v_told_squares, .int v_told_stars, .ref a_this_told_starts, .ref a_this_told_paces, .ref a_this_told_brights, .int v_told_tenants, .ref a_this_told_purses, .ref a_this_told_leases]))]) (ws2 := [(a_this, .inr (8, [.ref a_this_text, .ref a_this_reader, .ref a_this_told, .ref a_this_draft, .ref a_this_now, .ref a_this_firstImage, .ref a_this_secondImage, .ref a_this_kept, .ref a_this_offers, .ref a_this_seen, .ref a_this_rents, .long v_traced])), (a_this_told, .inr (5, [.int v_told_squares, .int v_told_stars, .ref a_this_told_starts, .ref a_this_told_paces, .ref a_this_told_brights, .int v_told_tenants, .ref a_this_told_purses, .ref a_this_told_leases])), (a_this_seen, .inr (4, [.int w16, .ref a_this_seen_stars, .ref a_this_seen_squares])), (a_this_seen_stars, .inl (G.2.1, 8, .inl w17)), (a_this_seen_squares, .inl (G.2.1, 8, .inl w18))]) (va_runV (As := [.int g1, .int g2]) (rest := []) hC (c_X4_add l G _ a_this_seen a_this_seen_stars a_this_seen_squares (v_seen_size) (v_seen_stars) (v_seen_squares) (g1) (g2) w16 w17 w18 hu) (cwV 2 hts gX8_saw_X4_add rfl rfl rfl hd_X4_add ⟨(Nat.le_of_ble_eq_true rfl), (Nat.le_of_ble_eq_true rfl)⟩) (zPVw hE hP hD [2, 3, 4] rfl rfl 2 rfl rfl) rfl rfl hl.1 rfl (lv_room (Nat.le_of_ble_eq_true rfl)) dX8_saw_43 ⟨Nat.zero_le _, Nat.zero_le _⟩) hP hD hS hA [2, 3, 4] [0, 1] [0, 1, 2, 3, 4] rfl rfl rfl rfl (by decide) rfl rfl rfl (fun H locs hP hD hS => ?_)
        refine lv_aload_n hx hb dX8_saw_46 rfl (lv_at hl 0 rfl) ?_
        refine va_get (D := G.1) (ci := 8) (v := .ref a_this_seen) (C := RX8) (T := TX8) (N := 12) hx hb hts inX8 hown hK hP 0 rfl rfl 9 (by decide) lk60 (fun _ h9 => h9) rfl dX8_saw_47 ?_
        refine va_get (D := G.1) (ci := 4) (v := .int w16) (C := RX4) (T := TX4) (N := 3) hx hb hts inX4 hown hK hP 2 rfl rfl 0 (by decide) lk104 (fun _ h9 => h9) rfl dX8_saw_50 ?_
        obtain ⟨hr0, hr1, hr2, hr3⟩ := so4 hf
        subst hr0
        subst hr1
        subst hr2
        subst hr3
        rw [← hQ]
        exact W.iret (v := w16) hx hb hr (fun t ht hW => ⟨⟨rfl, by rw [ht]; exact hP⟩, hS.F ht⟩) hS.2.2 dX8_saw_53
      · have hf := if_f hf hc15
        refine lv_bipush (v := (-3 : Int32)) hx hb dX8_saw_34 (by decide) ?_
        obtain ⟨hr0, hr1, hr2, hr3⟩ := so4 hf
        subst hr0
        subst hr1
        subst hr2
        subst hr3
        rw [← hQ]
        exact W.iret (v := (-3 : Int32)) hx hb hr (fun t ht hW => ⟨⟨rfl, by rw [ht]; exact hP⟩, hS.F ht⟩) hS.2.2 dX8_saw_36
    · have hf := if_t hf hc13
      refine lv_iconst (v := (-1 : Int32)) hx hb dX8_saw_22 (by decide) ?_
      obtain ⟨hr0, hr1, hr2, hr3⟩ := so4 hf
      subst hr0
      subst hr1
      subst hr2
      subst hr3
      rw [← hQ]
      exact W.iret (v := (-1 : Int32)) hx hb hr (fun t ht hW => ⟨⟨rfl, by rw [ht]; exact hP⟩, hS.F ht⟩) hS.2.2 dX8_saw_23
def f_X8_forget  (v_seen_size : Int32)  : Option (Int32 × Int32) := some (v_seen_size, (0 : Int32))
abbrev rm_X8_forget : Room := { frames := 0, cells := 0, slots := 0, locals := 0 }
set_option maxHeartbeats 4000000 in
set_option maxRecDepth 100000 in
theorem c_X8_forget (l : Launch) (G : zG) (sz : Nat) (a_this : Nat) (a_this_seen : Nat) (a_this_text : Nat) (a_this_reader : Nat) (a_this_told : Nat) (a_this_draft : Nat) (a_this_now : Nat) (a_this_firstImage : Nat) (a_this_secondImage : Nat) (a_this_kept : Nat) (a_this_offers : Nat) (a_this_rents : Nat) (a_this_seen_stars : Nat) (a_this_seen_squares : Nat) (v_traced : Int64) (v_seen_size : Int32) (R0 : Int32) (R1 : Int32) (hf : f_X8_forget v_seen_size = some (R0, R1)) : Met l yX8_forget wsX8_forget rm_X8_forget (va_Pc [.ref a_this] (zB G [(a_this, .inr (8, [.ref a_this_text, .ref a_this_reader, .ref a_this_told, .ref a_this_draft, .ref a_this_now, .ref a_this_firstImage, .ref a_this_secondImage, .ref a_this_kept, .ref a_this_offers, .ref a_this_seen, .ref a_this_rents, .long v_traced])), (a_this_seen, .inr (4, [.int v_seen_size, .ref a_this_seen_stars, .ref a_this_seen_squares]))] sz)) (zQ G (some (.int R0)) [(a_this, .inr (8, [.ref a_this_text, .ref a_this_reader, .ref a_this_told, .ref a_this_draft, .ref a_this_now, .ref a_this_firstImage, .ref a_this_secondImage, .ref a_this_kept, .ref a_this_offers, .ref a_this_seen, .ref a_this_rents, .long v_traced])), (a_this_seen, .inr (4, [.int R1, .ref a_this_seen_stars, .ref a_this_seen_squares]))] (va_A [(a_this, .inr (8, [.ref a_this_text, .ref a_this_reader, .ref a_this_told, .ref a_this_draft, .ref a_this_now, .ref a_this_firstImage, .ref a_this_secondImage, .ref a_this_kept, .ref a_this_offers, .ref a_this_seen, .ref a_this_rents, .long v_traced])), (a_this_seen, .inr (4, [.int v_seen_size, .ref a_this_seen_stars, .ref a_this_seen_squares]))] sz)) 0 0 (va_A [(a_this, .inr (8, [.ref a_this_text, .ref a_this_reader, .ref a_this_told, .ref a_this_draft, .ref a_this_now, .ref a_this_firstImage, .ref a_this_secondImage, .ref a_this_kept, .ref a_this_offers, .ref a_this_seen, .ref a_this_rents, .long v_traced])), (a_this_seen, .inr (4, [.int v_seen_size, .ref a_this_seen_stars, .ref a_this_seen_squares]))] sz) := by
  refine Met.ofW (cc := cX8_forget) (maxL := 2) (ret := (some .int)) (by decide) rfl ?_
  intro p e s m args below meth c s₁ B hml hv
  obtain ⟨hargs, hsz, hP, hD0, hE⟩ := hv
  have hx := B.exec
  have hb := B.bytes
  have hr := B.returns
  have hts := atoms_spec (ws := wsX8_forget) B.pre
  have hown : s.vm.findClass RX8 = some m.cls := findClass_of_methodNamed B.named
  have hlocks := B.notSynchronized
  have hK := hE.1
  have hC : CallFix p m c cX8_forget 2 s args wsX8_forget RX8 := ⟨hx, hb, hml, hown, hts⟩
  have inX4 : ∀ w ∈ wsX40, w ∈ wsX8_forget := by decide +kernel
  have inX8 : ∀ w ∈ wsX80, w ∈ wsX8_forget := by decide +kernel
  have lk60 := hts (.fieldLink RX8 60 "SkyLeases" "seen" "LSkyLeases$Seen;") (by decide +kernel)
  have lk104 := hts (.fieldLink RX8 104 "SkyLeases$Seen" "size" "I") (by decide +kernel)
  subst hsz
  have hD := hD0.self (sz := s.heap.size)
  generalize hAe : va_A [(a_this, .inr (8, [.ref a_this_text, .ref a_this_reader, .ref a_this_told, .ref a_this_draft, .ref a_this_now, .ref a_this_firstImage, .ref a_this_secondImage, .ref a_this_kept, .ref a_this_offers, .ref a_this_seen, .ref a_this_rents, .long v_traced])), (a_this_seen, .inr (4, [.int v_seen_size, .ref a_this_seen_stars, .ref a_this_seen_squares]))] s.heap.size = A at hD ⊢
  have hA : ∀ q : Nat, s.heap.size ≤ q → A q := fun q h => by rw [← hAe]; exact Or.inr h
  have hS : va_S A s.heap s.heap [] := va_S.rf
  have hP : va_P G.1 vwCl [(a_this, .inr (8, [.ref a_this_text, .ref a_this_reader, .ref a_this_told, .ref a_this_draft, .ref a_this_now, .ref a_this_firstImage, .ref a_this_secondImage, .ref a_this_kept, .ref a_this_offers, .ref a_this_seen, .ref a_this_rents, .long v_traced])), (a_this_seen, .inr (4, [.int v_seen_size, .ref a_this_seen_stars, .ref a_this_seen_squares]))] s.heap := hP
  have hl := lv_entry ([.ref a_this]) (n := 2) (Nat.le_of_ble_eq_true rfl)
  have hent : entryFrame m args 2 = F0 m 0 ((lg_sl ([.ref a_this]) ++ List.replicate (2 - (lg_sl ([.ref a_this])).length) Slot.unset).toArray) [] := by rw [hargs]; exact lg_entry_eq m [.ref a_this] 2
  refine W.eq hent ?_
  clear hent
  generalize (lg_sl ([.ref a_this]) ++ List.replicate (2 - (lg_sl ([.ref a_this])).length) Slot.unset).toArray = ls at hl ⊢
  have hl : lv_has ls 2 [(0, .ref a_this)] := hl
  generalize hQ : MQ below _ args s 0 0 _ = QQ
  change W p l e rm_X8_forget s m args below meth c s.heap [] 0 0 QQ _
  have hSH := hS
  unfold f_X8_forget at hf
  refine lv_aload_n hx hb dX8_forget_0 rfl (lv_at hl 0 rfl) ?_
  refine va_get (D := G.1) (ci := 8) (v := .ref a_this_seen) (C := RX8) (T := TX8) (N := 12) hx hb hts inX8 hown hK hP 0 rfl rfl 9 (by decide) lk60 (fun _ h9 => h9) rfl dX8_forget_1 ?_
  refine va_get (D := G.1) (ci := 4) (v := .int v_seen_size) (C := RX4) (T := TX4) (N := 3) hx hb hts inX4 hown hK hP 1 rfl rfl 0 (by decide) lk104 (fun _ h9 => h9) rfl dX8_forget_4 ?_
  refine lv_istore_n (lv' := [(1, .int v_seen_size), (0, .ref a_this)]) hx hb dX8_forget_7 rfl hl (by decide) rfl (fun ls hl => ?_)
  refine lv_aload_n hx hb dX8_forget_8 rfl (lv_at hl 1 rfl) ?_
  refine va_get (D := G.1) (ci := 8) (v := .ref a_this_seen) (C := RX8) (T := TX8) (N := 12) hx hb hts inX8 hown hK hP 0 rfl rfl 9 (by decide) lk60 (fun _ h9 => h9) rfl dX8_forget_9 ?_
  refine lv_iconst (v := (0 : Int32)) hx hb dX8_forget_12 (by decide) ?_
  refine va_put (D := G.1) (ci := 4) (v := .int (0 : Int32)) (ty := .int) (C := RX4) (T := TX4) (N := 3) hx hb hts inX4 tyX4 tyX4_ok nmX4 hown hK hP hD hS 1 rfl rfl 0 (by decide) lk104 (fun _ h9 => h9) rfl (by decide +kernel) rfl rfl (Nat.le_of_ble_eq_true rfl) dX8_forget_13 (fun H locs hP hD hS => ?_)
  have hP : va_P G.1 vwCl [(a_this, .inr (8, [.ref a_this_text, .ref a_this_reader, .ref a_this_told, .ref a_this_draft, .ref a_this_now, .ref a_this_firstImage, .ref a_this_secondImage, .ref a_this_kept, .ref a_this_offers, .ref a_this_seen, .ref a_this_rents, .long v_traced])), (a_this_seen, .inr (4, [.int (0 : Int32), .ref a_this_seen_stars, .ref a_this_seen_squares]))] H := hP
  have hD : va_D A [(a_this, .inr (8, [.ref a_this_text, .ref a_this_reader, .ref a_this_told, .ref a_this_draft, .ref a_this_now, .ref a_this_firstImage, .ref a_this_secondImage, .ref a_this_kept, .ref a_this_offers, .ref a_this_seen, .ref a_this_rents, .long v_traced])), (a_this_seen, .inr (4, [.int (0 : Int32), .ref a_this_seen_stars, .ref a_this_seen_squares]))] := hD
  refine lv_iload_n hx hb dX8_forget_16 rfl (lv_at hl 0 rfl) ?_
  obtain ⟨hr0, hr1⟩ := so2 hf
  subst hr0
  subst hr1
  rw [← hQ]
  exact W.iret (v := v_seen_size) hx hb hr (fun t ht hW => ⟨⟨rfl, by rw [ht]; exact hP⟩, hS.F ht⟩) hS.2.2 dX8_forget_17
theorem hd_X4_fits : yX4_fits.cls = RX4 ∧ yX4_fits.cls ≠ "java/lang/invoke/MethodHandle" ∧ yX4_fits.cls ≠ "java/lang/invoke/VarHandle" ∧ (parseMethodDescriptor yX4_fits.desc).map (fun d => d.parameters.length) = some 2 := by decide +kernel
def f_X8_dates_b57  (k19 : Int32 → Int32 → Int32 → Option (Int32))  (x2 : Int32) (x3 : Int32) (x4 : Int32) : Option (Int32) := k19 (x2) (x3) ((x4 + (1 : Int32)))
def f_X8_dates_b53  (k19 : Int32 → Int32 → Int32 → Option (Int32))  (x2 : Int32) (x4 : Int32) (t0 : Int32) : Option (Int32) := f_X8_dates_b57 k19 ((x2 + (1 : Int32))) (t0) (x4)
def f_X8_dates_b19 (v_seen_size : Int32) (v_told_squares : Int32) (v_told_stars : Int32) (v_seen_stars : (Nat → Int32)) (v_told_paces : (Nat → Int32)) (v_told_starts : (Nat → Int32)) (v_seen_squares : (Nat → Int32))  (x1 : Int32) : Nat → Int32 → Int32 → Int32 → Option (Int32)
  | 0, _, _, _ => none
  | n19 + 1, x2, x3, x4 => if (999 : Int32) < x4 then (if x1 = (0 : Int32) then (some (x2)) else (some (x3))) else (bd1 (f_X4_fits (v_seen_size) (v_told_squares) (v_told_stars) (v_seen_stars) (v_told_paces) (v_told_starts) (v_seen_squares) (x4)) fun r10 => if r10 = (0 : Int32) then (f_X8_dates_b57 (f_X8_dates_b19 v_seen_size v_told_squares v_told_stars v_seen_stars v_told_paces v_told_starts v_seen_squares x1 n19) (x2) (x3) (x4)) else (if x2 = (0 : Int32) then (f_X8_dates_b53 (f_X8_dates_b19 v_seen_size v_told_squares v_told_stars v_seen_stars v_told_paces v_told_starts v_seen_squares x1 n19) (x2) (x4) (x4)) else (f_X8_dates_b53 (f_X8_dates_b19 v_seen_size v_told_squares v_told_stars v_seen_stars v_told_paces v_told_starts v_seen_squares x1 n19) (x2) (x4) (x3))))
def f_X8_dates  (v_seen_size : Int32) (v_told_squares : Int32) (v_told_stars : Int32) (v_seen_stars : (Nat → Int32)) (v_told_paces : (Nat → Int32)) (v_told_starts : (Nat → Int32)) (v_seen_squares : (Nat → Int32)) (g1 : Int32) : Option (Int32) := bd1 (f_X8_isWithin (g1) ((0 : Int32)) ((1 : Int32))) fun r13 => if r13 = (0 : Int32) then (some ((-1 : Int32))) else (f_X8_dates_b19 v_seen_size v_told_squares v_told_stars v_seen_stars v_told_paces v_told_starts v_seen_squares (g1) zF ((0 : Int32)) ((-9 : Int32)) ((0 : Int32)))
abbrev rm_X8_dates : Room := { frames := 3, cells := 0, slots := 0, locals := 67 }
set_option maxHeartbeats 4000000 in
set_option maxRecDepth 100000 in
theorem c_X8_dates (l : Launch) (G : zG) (a_this : Nat) (a_this_seen : Nat) (a_this_told : Nat) (a_this_seen_stars : Nat) (a_this_told_paces : Nat) (a_this_told_starts : Nat) (a_this_seen_squares : Nat) (a_this_text : Nat) (a_this_reader : Nat) (a_this_draft : Nat) (a_this_now : Nat) (a_this_firstImage : Nat) (a_this_secondImage : Nat) (a_this_kept : Nat) (a_this_offers : Nat) (a_this_rents : Nat) (a_this_told_brights : Nat) (a_this_told_purses : Nat) (a_this_told_leases : Nat) (v_traced : Int64) (v_seen_size : Int32) (v_told_squares : Int32) (v_told_stars : Int32) (v_told_tenants : Int32) (v_seen_stars : (Nat → Int32)) (v_told_paces : (Nat → Int32)) (v_told_starts : (Nat → Int32)) (v_seen_squares : (Nat → Int32)) (g1 : Int32) (R0 : Int32) (hf : f_X8_dates v_seen_size v_told_squares v_told_stars v_seen_stars v_told_paces v_told_starts v_seen_squares g1 = some R0) : Met l yX8_dates wsX8_dates rm_X8_dates (va_Pc [.ref a_this, .int g1] (zR G [(a_this, .inr (8, [.ref a_this_text, .ref a_this_reader, .ref a_this_told, .ref a_this_draft, .ref a_this_now, .ref a_this_firstImage, .ref a_this_secondImage, .ref a_this_kept, .ref a_this_offers, .ref a_this_seen, .ref a_this_rents, .long v_traced])), (a_this_seen, .inr (4, [.int v_seen_size, .ref a_this_seen_stars, .ref a_this_seen_squares])), (a_this_told, .inr (5, [.int v_told_squares, .int v_told_stars, .ref a_this_told_starts, .ref a_this_told_paces, .ref a_this_told_brights, .int v_told_tenants, .ref a_this_told_purses, .ref a_this_told_leases])), (a_this_seen_stars, .inl (G.2.1, 8, .inl v_seen_stars)), (a_this_told_paces, .inl (G.2.1, 8, .inl v_told_paces)), (a_this_told_starts, .inl (G.2.1, 8, .inl v_told_starts)), (a_this_seen_squares, .inl (G.2.1, 8, .inl v_seen_squares))])) (zSv (some (.int R0))) 0 0 (fun _ => False) := by
  refine Met.ofW (cc := cX8_dates) (maxL := 5) (ret := (some .int)) (by decide) rfl ?_
  intro p e s m args below meth c s₁ B hml hv
  obtain ⟨hargs, hP, hE⟩ := hv
  have hx := B.exec
  have hb := B.bytes
  have hr := B.returns
  have hts := atoms_spec (ws := wsX8_dates) B.pre
  have hown : s.vm.findClass RX8 = some m.cls := findClass_of_methodNamed B.named
  have hlocks := B.notSynchronized
  have hK := hE.1
  have hC : CallFix p m c cX8_dates 5 s args wsX8_dates RX8 := ⟨hx, hb, hml, hown, hts⟩
  have inX8 : ∀ w ∈ wsX80, w ∈ wsX8_dates := by decide +kernel
  have lk26 := hts (.fieldLink RX8 26 "SkyLeases" "told" "LSkyLeases$Sky;") (by decide +kernel)
  have lk60 := hts (.fieldLink RX8 60 "SkyLeases" "seen" "LSkyLeases$Seen;") (by decide +kernel)
  have hl := lv_entry ([.ref a_this, .int g1]) (n := 5) (Nat.le_of_ble_eq_true rfl)
  have hent : entryFrame m args 5 = F0 m 0 ((lg_sl ([.ref a_this, .int g1]) ++ List.replicate (5 - (lg_sl ([.ref a_this, .int g1])).length) Slot.unset).toArray) [] := by rw [hargs]; exact lg_entry_eq m [.ref a_this, .int g1] 5
  refine W.eq hent ?_
  clear hent
  generalize (lg_sl ([.ref a_this, .int g1]) ++ List.replicate (5 - (lg_sl ([.ref a_this, .int g1])).length) Slot.unset).toArray = ls at hl ⊢
  have hl : lv_has ls 5 [(0, .ref a_this), (1, .int g1)] := hl
  generalize hQ : MQ below _ args s 0 0 _ = QQ
  change W p l e rm_X8_dates s m args below meth c s.heap [] 0 0 QQ _
  have j57 : ∀ (x1 : Int32), ∀ (k19 : Int32 → Int32 → Int32 → Option (Int32)), (∀ (x2 : Int32), ∀ (x3 : Int32), ∀ (x4 : Int32), ∀ (ls : Array Slot), lv_has ls 5 [(0, .ref a_this), (1, .int x1), (2, .int x2), (3, .int x3), (4, .int x4)] → k19 x2 x3 x4 = some R0 → W p l e rm_X8_dates s m args below meth c s.heap [] 0 0 QQ (F0 m 19 ls [])) → ∀ (x2 : Int32), ∀ (x3 : Int32), ∀ (x4 : Int32), ∀ (ls : Array Slot), lv_has ls 5 [(0, .ref a_this), (1, .int x1), (2, .int x2), (3, .int x3), (4, .int x4)] → f_X8_dates_b57 k19 x2 x3 x4 = some R0 → W p l e rm_X8_dates s m args below meth c s.heap [] 0 0 QQ (F0 m 57 ls []) := by
    intro x1 k19 hk19 x2 x3 x4 ls hl hf
    unfold f_X8_dates_b57 at hf
    refine lv_iinc (v := (x4 + (1 : Int32))) (lv' := [(4, .int (x4 + (1 : Int32))), (0, .ref a_this), (1, .int x1), (2, .int x2), (3, .int x3)]) hx hb dX8_dates_57 hl (k := 4) rfl rfl (by decide) rfl (fun ls hl => ?_)
    refine lv_goto (tgt := 19) hx hb dX8_dates_60 (by decide) ?_
    exact hk19 (x2) (x3) ((x4 + (1 : Int32))) ls (lv_sub hl [1, 2, 3, 4, 0] rfl) hf
  have j53 : ∀ (x1 : Int32), ∀ (k19 : Int32 → Int32 → Int32 → Option (Int32)), (∀ (x2 : Int32), ∀ (x3 : Int32), ∀ (x4 : Int32), ∀ (ls : Array Slot), lv_has ls 5 [(0, .ref a_this), (1, .int x1), (2, .int x2), (3, .int x3), (4, .int x4)] → k19 x2 x3 x4 = some R0 → W p l e rm_X8_dates s m args below meth c s.heap [] 0 0 QQ (F0 m 19 ls [])) → ∀ (x2 : Int32), ∀ (x4 : Int32), ∀ (t0 : Int32), ∀ (ls : Array Slot), lv_has ls 5 [(0, .ref a_this), (1, .int x1), (2, .int x2), (4, .int x4)] → f_X8_dates_b53 k19 x2 x4 t0 = some R0 → W p l e rm_X8_dates s m args below meth c s.heap [] 0 0 QQ (F0 m 53 ls [.int t0]) := by
    intro x1 k19 hk19 x2 x4 t0 ls hl hf
    unfold f_X8_dates_b53 at hf
    refine lv_istore_n (lv' := [(3, .int t0), (0, .ref a_this), (1, .int x1), (2, .int x2), (4, .int x4)]) hx hb dX8_dates_53 rfl hl (by decide) rfl (fun ls hl => ?_)
    refine lv_iinc (v := (x2 + (1 : Int32))) (lv' := [(2, .int (x2 + (1 : Int32))), (3, .int t0), (0, .ref a_this), (1, .int x1), (4, .int x4)]) hx hb dX8_dates_54 hl (k := 3) rfl rfl (by decide) rfl (fun ls hl => ?_)
    exact j57 (x1) k19 hk19 ((x2 + (1 : Int32))) (t0) (x4) ls (lv_sub hl [2, 3, 0, 1, 4] rfl) hf
  have j19 : ∀ (x1 : Int32), ∀ (nn : Nat), ∀ (x2 : Int32), ∀ (x3 : Int32), ∀ (x4 : Int32), ∀ (ls : Array Slot), lv_has ls 5 [(0, .ref a_this), (1, .int x1), (2, .int x2), (3, .int x3), (4, .int x4)] → f_X8_dates_b19 v_seen_size v_told_squares v_told_stars v_seen_stars v_told_paces v_told_starts v_seen_squares x1 nn x2 x3 x4 = some R0 → W p l e rm_X8_dates s m args below meth c s.heap [] 0 0 QQ (F0 m 19 ls []) := by
    intro x1
    intro nn
    induction nn with
    | zero =>
      intro x2 x3 x4 ls hl hf
      rw [f_X8_dates_b19] at hf
      cases hf
    | succ n19 ih =>
      intro x2 x3 x4 ls hl hf
      rw [f_X8_dates_b19] at hf
      refine lv_iload hx hb dX8_dates_19 (lv_at hl 4 rfl) ?_
      refine lv_sipush (v := (999 : Int32)) hx hb dX8_dates_21 (by decide) ?_
      refine lv_icmp_gt (tgt := 63) hx hb dX8_dates_24 (by decide) (fun hc8 => ?_) (fun hc8 => ?_)
      · have hf := if_t hf hc8
        refine lv_iload_n hx hb dX8_dates_63 rfl (lv_at hl 1 rfl) ?_
        refine lv_if_ne (tgt := 71) hx hb dX8_dates_64 (by decide) (fun hc9 => ?_) (fun hc9 => ?_)
        · have hf := if_f hf hc9
          refine lv_iload_n hx hb dX8_dates_71 rfl (lv_at hl 3 rfl) ?_
          have hr0 := so1 hf
          subst hr0
          rw [← hQ]
          exact W.iret (v := x3) hx hb hr (fun t ht hW => ⟨rfl, ht⟩) (fun _ h => by cases h) dX8_dates_72
        · have hf := if_t hf hc9
          refine lv_iload_n hx hb dX8_dates_67 rfl (lv_at hl 2 rfl) ?_
          refine lv_goto (tgt := 72) hx hb dX8_dates_68 (by decide) ?_
          have hr0 := so1 hf
          subst hr0
          rw [← hQ]
          exact W.iret (v := x2) hx hb hr (fun t ht hW => ⟨rfl, ht⟩) (fun _ h => by cases h) dX8_dates_72
      · have hf := if_f hf hc8
        refine lv_aload_n hx hb dX8_dates_27 rfl (lv_at hl 0 rfl) ?_
        refine va_get (D := G.1) (ci := 8) (v := .ref a_this_seen) (C := RX8) (T := TX8) (N := 12) hx hb hts inX8 hown hK hP 0 rfl rfl 9 (by decide) lk60 (fun _ h9 => h9) rfl dX8_dates_28 ?_
        refine lv_aload_n hx hb dX8_dates_31 rfl (lv_at hl 0 rfl) ?_
        refine va_get (D := G.1) (ci := 8) (v := .ref a_this_told) (C := RX8) (T := TX8) (N := 12) hx hb hts inX8 hown hK hP 0 rfl rfl 2 (by decide) lk26 (fun _ h9 => h9) rfl dX8_dates_32 ?_
        refine lv_iload hx hb dX8_dates_35 (lv_at hl 4 rfl) ?_
        obtain ⟨r10, hu, hf⟩ := bd1_some hf
        refine zRi (va_runV (As := [.ref a_this_told, .int x4]) (rest := []) hC (c_X4_fits l G a_this_seen a_this_told a_this_seen_stars a_this_told_paces a_this_told_starts a_this_seen_squares a_this_told_brights a_this_told_purses a_this_told_leases (v_seen_size) (v_told_squares) (v_told_stars) (v_told_tenants) (v_seen_stars) (v_told_paces) (v_told_starts) (v_seen_squares) (x4) r10 hu) (cwV 2 hts gX8_dates_X4_fits rfl rfl rfl hd_X4_fits ⟨(Nat.le_of_ble_eq_true rfl), (Nat.le_of_ble_eq_true rfl)⟩) (zPV hE hP [1, 2, 3, 4, 5, 6] rfl 1 rfl rfl) rfl rfl hl.1 rfl (lv_room (Nat.le_of_ble_eq_true rfl)) dX8_dates_37 ⟨Nat.zero_le _, Nat.zero_le _⟩) ?_
        refine lv_if_eq (tgt := 57) hx hb dX8_dates_40 (by decide) (fun hc11 => ?_) (fun hc11 => ?_)
        · have hf := if_t hf hc11
          exact j57 (x1) (f_X8_dates_b19 v_seen_size v_told_squares v_told_stars v_seen_stars v_told_paces v_told_starts v_seen_squares x1 n19) ih (x2) (x3) (x4) ls (lv_sub hl [0, 1, 2, 3, 4] rfl) hf
        · have hf := if_f hf hc11
          refine lv_iload_n hx hb dX8_dates_43 rfl (lv_at hl 2 rfl) ?_
          refine lv_if_ne (tgt := 52) hx hb dX8_dates_44 (by decide) (fun hc12 => ?_) (fun hc12 => ?_)
          · have hf := if_f hf hc12
            refine lv_iload_n hx hb dX8_dates_52 rfl (lv_at hl 3 rfl) ?_
            exact j53 (x1) (f_X8_dates_b19 v_seen_size v_told_squares v_told_stars v_seen_stars v_told_paces v_told_starts v_seen_squares x1 n19) ih (x2) (x4) (x3) ls (lv_sub hl [0, 1, 2, 4] rfl) hf
          · have hf := if_t hf hc12
            refine lv_iload hx hb dX8_dates_47 (lv_at hl 4 rfl) ?_
            refine lv_goto (tgt := 53) hx hb dX8_dates_49 (by decide) ?_
            exact j53 (x1) (f_X8_dates_b19 v_seen_size v_told_squares v_told_stars v_seen_stars v_told_paces v_told_starts v_seen_squares x1 n19) ih (x2) (x4) (x4) ls (lv_sub hl [0, 1, 2, 4] rfl) hf
  unfold f_X8_dates at hf
  refine lv_iload_n hx hb dX8_dates_0 rfl (lv_at hl 1 rfl) ?_
  refine lv_iconst (v := (0 : Int32)) hx hb dX8_dates_1 (by decide) ?_
  refine lv_iconst (v := (1 : Int32)) hx hb dX8_dates_2 (by decide) ?_
  obtain ⟨r13, hu, hf⟩ := bd1_some hf
  refine zRi (va_runS (As := [.int g1, .int (0 : Int32), .int (1 : Int32)]) (rest := []) hC (c_X8_isWithin l G (g1) ((0 : Int32)) ((1 : Int32)) r13 hu) (va_cwS 3 hts gX8_dates_X8_isWithin rfl rfl rfl hd_X8_isWithin.2 ⟨(Nat.le_of_ble_eq_true rfl), (Nat.le_of_ble_eq_true rfl)⟩) (zPS hE hP [] rfl) rfl rfl hl.1 rfl (lv_room (Nat.le_of_ble_eq_true rfl)) dX8_dates_3 ⟨Nat.zero_le _, Nat.zero_le _⟩) ?_
  refine lv_if_ne (tgt := 11) hx hb dX8_dates_6 (by decide) (fun hc14 => ?_) (fun hc14 => ?_)
  · have hf := if_f hf hc14
    refine lv_iconst (v := (0 : Int32)) hx hb dX8_dates_11 (by decide) ?_
    refine lv_istore_n (lv' := [(2, .int (0 : Int32)), (0, .ref a_this), (1, .int g1)]) hx hb dX8_dates_12 rfl hl (by decide) rfl (fun ls hl => ?_)
    refine lv_bipush (v := (-9 : Int32)) hx hb dX8_dates_13 (by decide) ?_
    refine lv_istore_n (lv' := [(3, .int (-9 : Int32)), (2, .int (0 : Int32)), (0, .ref a_this), (1, .int g1)]) hx hb dX8_dates_15 rfl hl (by decide) rfl (fun ls hl => ?_)
    refine lv_iconst (v := (0 : Int32)) hx hb dX8_dates_16 (by decide) ?_
    refine lv_istore (lv' := [(4, .int (0 : Int32)), (3, .int (-9 : Int32)), (2, .int (0 : Int32)), (0, .ref a_this), (1, .int g1)]) hx hb dX8_dates_17 hl (by decide) rfl (fun ls hl => ?_)
    exact j19 (g1) zF ((0 : Int32)) ((-9 : Int32)) ((0 : Int32)) ls (lv_sub hl [3, 4, 2, 1, 0] rfl) hf
  · have hf := if_t hf hc14
    refine lv_iconst (v := (-1 : Int32)) hx hb dX8_dates_9 (by decide) ?_
    have hr0 := so1 hf
    subst hr0
    rw [← hQ]
    exact W.iret (v := (-1 : Int32)) hx hb hr (fun t ht hW => ⟨rfl, ht⟩) (fun _ h => by cases h) dX8_dates_10
def f_X8_waysToBring_d0 (_v_p2 : (Nat → Int32)) (_g0 : Int32) (_g1 : Int32) (_g3 : Int32) : Option Int32 := none
abbrev rm_X8_waysToBring_d0 : Room := { frames := 0, cells := 0, slots := 0, locals := 0 }
theorem c_X8_waysToBring_d0 (l : Launch) (G : zG) (a_p2 : Nat) (v_p2 : (Nat → Int32)) (g0 : Int32) (g1 : Int32) (g3 : Int32) (R0 : Int32) (hf : f_X8_waysToBring_d0 v_p2 g0 g1 g3 = some R0) : Met l yX8_waysToBring wsX8_waysToBring rm_X8_waysToBring_d0 (va_Pc [.int g0, .int g1, .ref a_p2, .int g3] (zR G [(a_p2, .inl (G.2.1, 24, .inl v_p2))])) (zSv (some (.int R0))) 0 0 (fun _ => False) := by cases hf
theorem hd_X8_waysToBring : yX8_waysToBring.cls = RX8 ∧ yX8_waysToBring.cls ≠ "java/lang/invoke/MethodHandle" ∧ yX8_waysToBring.cls ≠ "java/lang/invoke/VarHandle" ∧ (parseMethodDescriptor yX8_waysToBring.desc).map (fun d => d.parameters.length) = some 4 := by decide +kernel
def f_X8_waysToBring_d1_b10    (x0 : Int32) : Option (Int32) := if (0 : Int32) < x0 then (some ((0 : Int32))) else (some ((1 : Int32)))
def f_X8_waysToBring_d1_b26 (v_p2 : (Nat → Int32))  (x0 : Int32) (x1 : Int32) (x3 : Int32) : Nat → Int32 → Int32 → Option (Int32)
  | 0, _, _ => none
  | n26 + 1, x4, x5 => if x3 ≤ x5 then (some (x4)) else (gd (inB (((x1 - (1 : Int32)) * (8 : Int32)) + x5) 24) (nm ((v_p2 ((((x1 - (1 : Int32)) * (8 : Int32)) + x5)).toNatClampNeg)) fun y11 => bd1 (f_X8_waysToBring_d0 (v_p2) ((x0 - y11)) ((x1 - (1 : Int32))) (x3)) fun r12 => f_X8_waysToBring_d1_b26 v_p2 x0 x1 x3 n26 ((x4 + r12)) ((x5 + (1 : Int32)))))
def f_X8_waysToBring_d1  (v_p2 : (Nat → Int32)) (g0 : Int32) (g1 : Int32) (g3 : Int32) : Option (Int32) := if g1 < (1 : Int32) then (f_X8_waysToBring_d1_b10 (g0)) else (if g1 ≤ (3 : Int32) then (f_X8_waysToBring_d1_b26 v_p2 (g0) (g1) (g3) zF ((0 : Int32)) ((0 : Int32))) else (f_X8_waysToBring_d1_b10 (g0)))
abbrev rm_X8_waysToBring_d1 : Room := { frames := 1, cells := 0, slots := 0, locals := 26 }
set_option maxHeartbeats 4000000 in
set_option maxRecDepth 100000 in
theorem c_X8_waysToBring_d1 (l : Launch) (G : zG) (a_p2 : Nat) (v_p2 : (Nat → Int32)) (g0 : Int32) (g1 : Int32) (g3 : Int32) (R0 : Int32) (hf : f_X8_waysToBring_d1 v_p2 g0 g1 g3 = some R0) : Met l yX8_waysToBring wsX8_waysToBring rm_X8_waysToBring_d1 (va_Pc [.int g0, .int g1, .ref a_p2, .int g3] (zR G [(a_p2, .inl (G.2.1, 24, .inl v_p2))])) (zSv (some (.int R0))) 0 0 (fun _ => False) := by
  refine Met.ofW (cc := cX8_waysToBring) (maxL := 7) (ret := (some .int)) (by decide) rfl ?_
  intro p e s m args below meth c s₁ B hml hv
  obtain ⟨hargs, hP, hE⟩ := hv
  have hx := B.exec
  have hb := B.bytes
  have hr := B.returns
  have hts := atoms_spec (ws := wsX8_waysToBring) B.pre
  have hown : s.vm.findClass RX8 = some m.cls := findClass_of_methodNamed B.named
  have hlocks := B.notSynchronized
  have hK := hE.1
  have hC : CallFix p m c cX8_waysToBring 7 s args wsX8_waysToBring RX8 := ⟨hx, hb, hml, hown, hts⟩
  have hl := lv_entry ([.int g0, .int g1, .ref a_p2, .int g3]) (n := 7) (Nat.le_of_ble_eq_true rfl)
  have hent : entryFrame m args 7 = F0 m 0 ((lg_sl ([.int g0, .int g1, .ref a_p2, .int g3]) ++ List.replicate (7 - (lg_sl ([.int g0, .int g1, .ref a_p2, .int g3])).length) Slot.unset).toArray) [] := by rw [hargs]; exact lg_entry_eq m [.int g0, .int g1, .ref a_p2, .int g3] 7
  refine W.eq hent ?_
  clear hent
  generalize (lg_sl ([.int g0, .int g1, .ref a_p2, .int g3]) ++ List.replicate (7 - (lg_sl ([.int g0, .int g1, .ref a_p2, .int g3])).length) Slot.unset).toArray = ls at hl ⊢
  have hl : lv_has ls 7 [(0, .int g0), (1, .int g1), (2, .ref a_p2), (3, .int g3)] := hl
  generalize hQ : MQ below _ args s 0 0 _ = QQ
  change W p l e rm_X8_waysToBring_d1 s m args below meth c s.heap [] 0 0 QQ _
  have j10 : ∀ (x0 : Int32), ∀ (ls : Array Slot), lv_has ls 7 [(0, .int x0)] → f_X8_waysToBring_d1_b10 x0 = some R0 → W p l e rm_X8_waysToBring_d1 s m args below meth c s.heap [] 0 0 QQ (F0 m 10 ls []) := by
    intro x0 ls hl hf
    unfold f_X8_waysToBring_d1_b10 at hf
    refine lv_iload_n hx hb dX8_waysToBring_10 rfl (lv_at hl 0 rfl) ?_
    refine lv_if_gt (tgt := 18) hx hb dX8_waysToBring_11 (by decide) (fun hc8 => ?_) (fun hc8 => ?_)
    · have hf := if_t hf hc8
      refine lv_iconst (v := (0 : Int32)) hx hb dX8_waysToBring_18 (by decide) ?_
      have hr0 := so1 hf
      subst hr0
      rw [← hQ]
      exact W.iret (v := (0 : Int32)) hx hb hr (fun t ht hW => ⟨rfl, ht⟩) (fun _ h => by cases h) dX8_waysToBring_19
    · have hf := if_f hf hc8
      refine lv_iconst (v := (1 : Int32)) hx hb dX8_waysToBring_14 (by decide) ?_
      refine lv_goto (tgt := 19) hx hb dX8_waysToBring_15 (by decide) ?_
      have hr0 := so1 hf
      subst hr0
      rw [← hQ]
      exact W.iret (v := (1 : Int32)) hx hb hr (fun t ht hW => ⟨rfl, ht⟩) (fun _ h => by cases h) dX8_waysToBring_19
  have j26 : ∀ (x0 : Int32), ∀ (x1 : Int32), ∀ (x3 : Int32), ∀ (nn : Nat), ∀ (x4 : Int32), ∀ (x5 : Int32), ∀ (ls : Array Slot), lv_has ls 7 [(0, .int x0), (1, .int x1), (2, .ref a_p2), (3, .int x3), (4, .int x4), (5, .int x5)] → f_X8_waysToBring_d1_b26 v_p2 x0 x1 x3 nn x4 x5 = some R0 → W p l e rm_X8_waysToBring_d1 s m args below meth c s.heap [] 0 0 QQ (F0 m 26 ls []) := by
    intro x0 x1 x3
    intro nn
    induction nn with
    | zero =>
      intro x4 x5 ls hl hf
      rw [f_X8_waysToBring_d1_b26] at hf
      cases hf
    | succ n26 ih =>
      intro x4 x5 ls hl hf
      rw [f_X8_waysToBring_d1_b26] at hf
      refine lv_iload hx hb dX8_waysToBring_26 (lv_at hl 5 rfl) ?_
      refine lv_iload_n hx hb dX8_waysToBring_28 rfl (lv_at hl 3 rfl) ?_
      refine lv_icmp_ge (tgt := 68) hx hb dX8_waysToBring_29 (by decide) (fun hc9 => ?_) (fun hc9 => ?_)
      · have hf := if_t hf hc9
        refine lv_iload hx hb dX8_waysToBring_68 (lv_at hl 4 rfl) ?_
        have hr0 := so1 hf
        subst hr0
        rw [← hQ]
        exact W.iret (v := x4) hx hb hr (fun t ht hW => ⟨rfl, ht⟩) (fun _ h => by cases h) dX8_waysToBring_70
      · have hf := if_f hf hc9
        refine lv_aload_n hx hb dX8_waysToBring_32 rfl (lv_at hl 2 rfl) ?_
        refine lv_iload_n hx hb dX8_waysToBring_33 rfl (lv_at hl 1 rfl) ?_
        refine lv_iconst (v := (1 : Int32)) hx hb dX8_waysToBring_34 (by decide) ?_
        refine lv_isub hx hb dX8_waysToBring_35 ?_
        refine lv_bipush (v := (8 : Int32)) hx hb dX8_waysToBring_36 (by decide) ?_
        refine lv_imul hx hb dX8_waysToBring_38 ?_
        refine lv_iload hx hb dX8_waysToBring_39 (lv_at hl 5 rfl) ?_
        refine lv_iadd hx hb dX8_waysToBring_41 ?_
        obtain ⟨hg10, hf⟩ := gd_some hf
        refine va_iald hx hb hK hP 0 0 rfl rfl (inB_in hg10) dX8_waysToBring_42 ?_
        refine lv_topi (fun y11 ey11 => ?_)
        have hf := nm_to hf ey11
        refine lv_istore (lv' := [(6, .int y11), (0, .int x0), (1, .int x1), (2, .ref a_p2), (3, .int x3), (4, .int x4), (5, .int x5)]) hx hb dX8_waysToBring_43 hl (by decide) rfl (fun ls hl => ?_)
        refine lv_iload hx hb dX8_waysToBring_45 (lv_at hl 5 rfl) ?_
        refine lv_iload_n hx hb dX8_waysToBring_47 rfl (lv_at hl 1 rfl) ?_
        refine lv_iload hx hb dX8_waysToBring_48 (lv_at hl 0 rfl) ?_
        refine lv_isub hx hb dX8_waysToBring_50 ?_
        refine lv_iload_n hx hb dX8_waysToBring_51 rfl (lv_at hl 2 rfl) ?_
        refine lv_iconst (v := (1 : Int32)) hx hb dX8_waysToBring_52 (by decide) ?_
        refine lv_isub hx hb dX8_waysToBring_53 ?_
        refine lv_aload_n hx hb dX8_waysToBring_54 rfl (lv_at hl 3 rfl) ?_
        refine lv_iload_n hx hb dX8_waysToBring_55 rfl (lv_at hl 4 rfl) ?_
        obtain ⟨r12, hu, hf⟩ := bd1_some hf
        refine zRi (va_runS (As := [.int (x0 - y11), .int (x1 - (1 : Int32)), .ref a_p2, .int x3]) (rest := [.int x4]) hC (c_X8_waysToBring_d0 l G a_p2 (v_p2) ((x0 - y11)) ((x1 - (1 : Int32))) (x3) r12 hu) (va_cwS 4 hts gX8_waysToBring_X8_waysToBring rfl rfl rfl hd_X8_waysToBring.2 ⟨(Nat.le_of_ble_eq_true rfl), (Nat.le_of_ble_eq_true rfl)⟩) (zPS hE hP [0] rfl) rfl rfl hl.1 rfl (lv_room (Nat.le_of_ble_eq_true rfl)) dX8_waysToBring_56 ⟨Nat.zero_le _, Nat.zero_le _⟩) ?_
        refine lv_iadd hx hb dX8_waysToBring_59 ?_
        refine lv_istore (lv' := [(4, .int (x4 + r12)), (6, .int y11), (0, .int x0), (1, .int x1), (2, .ref a_p2), (3, .int x3), (5, .int x5)]) hx hb dX8_waysToBring_60 hl (by decide) rfl (fun ls hl => ?_)
        refine lv_iinc (v := (x5 + (1 : Int32))) (lv' := [(5, .int (x5 + (1 : Int32))), (4, .int (x4 + r12)), (6, .int y11), (0, .int x0), (1, .int x1), (2, .ref a_p2), (3, .int x3)]) hx hb dX8_waysToBring_62 hl (k := 6) rfl rfl (by decide) rfl (fun ls hl => ?_)
        refine lv_goto (tgt := 26) hx hb dX8_waysToBring_65 (by decide) ?_
        exact ih ((x4 + r12)) ((x5 + (1 : Int32))) ls (lv_sub hl [3, 4, 5, 6, 1, 0] rfl) hf
  unfold f_X8_waysToBring_d1 at hf
  refine lv_iload_n hx hb dX8_waysToBring_0 rfl (lv_at hl 1 rfl) ?_
  refine lv_iconst (v := (1 : Int32)) hx hb dX8_waysToBring_1 (by decide) ?_
  refine lv_icmp_lt (tgt := 10) hx hb dX8_waysToBring_2 (by decide) (fun hc13 => ?_) (fun hc13 => ?_)
  · have hf := if_t hf hc13
    exact j10 (g0) ls (lv_sub hl [0] rfl) hf
  · have hf := if_f hf hc13
    refine lv_iload_n hx hb dX8_waysToBring_5 rfl (lv_at hl 1 rfl) ?_
    refine lv_iconst (v := (3 : Int32)) hx hb dX8_waysToBring_6 (by decide) ?_
    refine lv_icmp_le (tgt := 20) hx hb dX8_waysToBring_7 (by decide) (fun hc14 => ?_) (fun hc14 => ?_)
    · have hf := if_t hf hc14
      refine lv_iconst (v := (0 : Int32)) hx hb dX8_waysToBring_20 (by decide) ?_
      refine lv_istore (lv' := [(4, .int (0 : Int32)), (0, .int g0), (1, .int g1), (2, .ref a_p2), (3, .int g3)]) hx hb dX8_waysToBring_21 hl (by decide) rfl (fun ls hl => ?_)
      refine lv_iconst (v := (0 : Int32)) hx hb dX8_waysToBring_23 (by decide) ?_
      refine lv_istore (lv' := [(5, .int (0 : Int32)), (4, .int (0 : Int32)), (0, .int g0), (1, .int g1), (2, .ref a_p2), (3, .int g3)]) hx hb dX8_waysToBring_24 hl (by decide) rfl (fun ls hl => ?_)
      exact j26 (g0) (g1) (g3) zF ((0 : Int32)) ((0 : Int32)) ls (lv_sub hl [2, 3, 4, 5, 1, 0] rfl) hf
    · have hf := if_f hf hc14
      exact j10 (g0) ls (lv_sub hl [0] rfl) hf
def f_X8_waysToBring_d2_b10    (x0 : Int32) : Option (Int32) := if (0 : Int32) < x0 then (some ((0 : Int32))) else (some ((1 : Int32)))
def f_X8_waysToBring_d2_b26 (v_p2 : (Nat → Int32))  (x0 : Int32) (x1 : Int32) (x3 : Int32) : Nat → Int32 → Int32 → Option (Int32)
  | 0, _, _ => none
  | n26 + 1, x4, x5 => if x3 ≤ x5 then (some (x4)) else (gd (inB (((x1 - (1 : Int32)) * (8 : Int32)) + x5) 24) (nm ((v_p2 ((((x1 - (1 : Int32)) * (8 : Int32)) + x5)).toNatClampNeg)) fun y11 => bd1 (f_X8_waysToBring_d1 (v_p2) ((x0 - y11)) ((x1 - (1 : Int32))) (x3)) fun r12 => f_X8_waysToBring_d2_b26 v_p2 x0 x1 x3 n26 ((x4 + r12)) ((x5 + (1 : Int32)))))
def f_X8_waysToBring_d2  (v_p2 : (Nat → Int32)) (g0 : Int32) (g1 : Int32) (g3 : Int32) : Option (Int32) := if g1 < (1 : Int32) then (f_X8_waysToBring_d2_b10 (g0)) else (if g1 ≤ (3 : Int32) then (f_X8_waysToBring_d2_b26 v_p2 (g0) (g1) (g3) zF ((0 : Int32)) ((0 : Int32))) else (f_X8_waysToBring_d2_b10 (g0)))
abbrev rm_X8_waysToBring_d2 : Room := { frames := 2, cells := 0, slots := 0, locals := 52 }
set_option maxHeartbeats 4000000 in
set_option maxRecDepth 100000 in
theorem c_X8_waysToBring_d2 (l : Launch) (G : zG) (a_p2 : Nat) (v_p2 : (Nat → Int32)) (g0 : Int32) (g1 : Int32) (g3 : Int32) (R0 : Int32) (hf : f_X8_waysToBring_d2 v_p2 g0 g1 g3 = some R0) : Met l yX8_waysToBring wsX8_waysToBring rm_X8_waysToBring_d2 (va_Pc [.int g0, .int g1, .ref a_p2, .int g3] (zR G [(a_p2, .inl (G.2.1, 24, .inl v_p2))])) (zSv (some (.int R0))) 0 0 (fun _ => False) := by
  refine Met.ofW (cc := cX8_waysToBring) (maxL := 7) (ret := (some .int)) (by decide) rfl ?_
  intro p e s m args below meth c s₁ B hml hv
  obtain ⟨hargs, hP, hE⟩ := hv
  have hx := B.exec
  have hb := B.bytes
  have hr := B.returns
  have hts := atoms_spec (ws := wsX8_waysToBring) B.pre
  have hown : s.vm.findClass RX8 = some m.cls := findClass_of_methodNamed B.named
  have hlocks := B.notSynchronized
  have hK := hE.1
  have hC : CallFix p m c cX8_waysToBring 7 s args wsX8_waysToBring RX8 := ⟨hx, hb, hml, hown, hts⟩
  have hl := lv_entry ([.int g0, .int g1, .ref a_p2, .int g3]) (n := 7) (Nat.le_of_ble_eq_true rfl)
  have hent : entryFrame m args 7 = F0 m 0 ((lg_sl ([.int g0, .int g1, .ref a_p2, .int g3]) ++ List.replicate (7 - (lg_sl ([.int g0, .int g1, .ref a_p2, .int g3])).length) Slot.unset).toArray) [] := by rw [hargs]; exact lg_entry_eq m [.int g0, .int g1, .ref a_p2, .int g3] 7
  refine W.eq hent ?_
  clear hent
  generalize (lg_sl ([.int g0, .int g1, .ref a_p2, .int g3]) ++ List.replicate (7 - (lg_sl ([.int g0, .int g1, .ref a_p2, .int g3])).length) Slot.unset).toArray = ls at hl ⊢
  have hl : lv_has ls 7 [(0, .int g0), (1, .int g1), (2, .ref a_p2), (3, .int g3)] := hl
  generalize hQ : MQ below _ args s 0 0 _ = QQ
  change W p l e rm_X8_waysToBring_d2 s m args below meth c s.heap [] 0 0 QQ _
  have j10 : ∀ (x0 : Int32), ∀ (ls : Array Slot), lv_has ls 7 [(0, .int x0)] → f_X8_waysToBring_d2_b10 x0 = some R0 → W p l e rm_X8_waysToBring_d2 s m args below meth c s.heap [] 0 0 QQ (F0 m 10 ls []) := by
    intro x0 ls hl hf
    unfold f_X8_waysToBring_d2_b10 at hf
    refine lv_iload_n hx hb dX8_waysToBring_10 rfl (lv_at hl 0 rfl) ?_
    refine lv_if_gt (tgt := 18) hx hb dX8_waysToBring_11 (by decide) (fun hc8 => ?_) (fun hc8 => ?_)
    · have hf := if_t hf hc8
      refine lv_iconst (v := (0 : Int32)) hx hb dX8_waysToBring_18 (by decide) ?_
      have hr0 := so1 hf
      subst hr0
      rw [← hQ]
      exact W.iret (v := (0 : Int32)) hx hb hr (fun t ht hW => ⟨rfl, ht⟩) (fun _ h => by cases h) dX8_waysToBring_19
    · have hf := if_f hf hc8
      refine lv_iconst (v := (1 : Int32)) hx hb dX8_waysToBring_14 (by decide) ?_
      refine lv_goto (tgt := 19) hx hb dX8_waysToBring_15 (by decide) ?_
      have hr0 := so1 hf
      subst hr0
      rw [← hQ]
      exact W.iret (v := (1 : Int32)) hx hb hr (fun t ht hW => ⟨rfl, ht⟩) (fun _ h => by cases h) dX8_waysToBring_19
  have j26 : ∀ (x0 : Int32), ∀ (x1 : Int32), ∀ (x3 : Int32), ∀ (nn : Nat), ∀ (x4 : Int32), ∀ (x5 : Int32), ∀ (ls : Array Slot), lv_has ls 7 [(0, .int x0), (1, .int x1), (2, .ref a_p2), (3, .int x3), (4, .int x4), (5, .int x5)] → f_X8_waysToBring_d2_b26 v_p2 x0 x1 x3 nn x4 x5 = some R0 → W p l e rm_X8_waysToBring_d2 s m args below meth c s.heap [] 0 0 QQ (F0 m 26 ls []) := by
    intro x0 x1 x3
    intro nn
    induction nn with
    | zero =>
      intro x4 x5 ls hl hf
      rw [f_X8_waysToBring_d2_b26] at hf
      cases hf
    | succ n26 ih =>
      intro x4 x5 ls hl hf
      rw [f_X8_waysToBring_d2_b26] at hf
      refine lv_iload hx hb dX8_waysToBring_26 (lv_at hl 5 rfl) ?_
      refine lv_iload_n hx hb dX8_waysToBring_28 rfl (lv_at hl 3 rfl) ?_
      refine lv_icmp_ge (tgt := 68) hx hb dX8_waysToBring_29 (by decide) (fun hc9 => ?_) (fun hc9 => ?_)
      · have hf := if_t hf hc9
        refine lv_iload hx hb dX8_waysToBring_68 (lv_at hl 4 rfl) ?_
        have hr0 := so1 hf
        subst hr0
        rw [← hQ]
        exact W.iret (v := x4) hx hb hr (fun t ht hW => ⟨rfl, ht⟩) (fun _ h => by cases h) dX8_waysToBring_70
      · have hf := if_f hf hc9
        refine lv_aload_n hx hb dX8_waysToBring_32 rfl (lv_at hl 2 rfl) ?_
        refine lv_iload_n hx hb dX8_waysToBring_33 rfl (lv_at hl 1 rfl) ?_
        refine lv_iconst (v := (1 : Int32)) hx hb dX8_waysToBring_34 (by decide) ?_
        refine lv_isub hx hb dX8_waysToBring_35 ?_
        refine lv_bipush (v := (8 : Int32)) hx hb dX8_waysToBring_36 (by decide) ?_
        refine lv_imul hx hb dX8_waysToBring_38 ?_
        refine lv_iload hx hb dX8_waysToBring_39 (lv_at hl 5 rfl) ?_
        refine lv_iadd hx hb dX8_waysToBring_41 ?_
        obtain ⟨hg10, hf⟩ := gd_some hf
        refine va_iald hx hb hK hP 0 0 rfl rfl (inB_in hg10) dX8_waysToBring_42 ?_
        refine lv_topi (fun y11 ey11 => ?_)
        have hf := nm_to hf ey11
        refine lv_istore (lv' := [(6, .int y11), (0, .int x0), (1, .int x1), (2, .ref a_p2), (3, .int x3), (4, .int x4), (5, .int x5)]) hx hb dX8_waysToBring_43 hl (by decide) rfl (fun ls hl => ?_)
        refine lv_iload hx hb dX8_waysToBring_45 (lv_at hl 5 rfl) ?_
        refine lv_iload_n hx hb dX8_waysToBring_47 rfl (lv_at hl 1 rfl) ?_
        refine lv_iload hx hb dX8_waysToBring_48 (lv_at hl 0 rfl) ?_
        refine lv_isub hx hb dX8_waysToBring_50 ?_
        refine lv_iload_n hx hb dX8_waysToBring_51 rfl (lv_at hl 2 rfl) ?_
        refine lv_iconst (v := (1 : Int32)) hx hb dX8_waysToBring_52 (by decide) ?_
        refine lv_isub hx hb dX8_waysToBring_53 ?_
        refine lv_aload_n hx hb dX8_waysToBring_54 rfl (lv_at hl 3 rfl) ?_
        refine lv_iload_n hx hb dX8_waysToBring_55 rfl (lv_at hl 4 rfl) ?_
        obtain ⟨r12, hu, hf⟩ := bd1_some hf
        refine zRi (va_runS (As := [.int (x0 - y11), .int (x1 - (1 : Int32)), .ref a_p2, .int x3]) (rest := [.int x4]) hC (c_X8_waysToBring_d1 l G a_p2 (v_p2) ((x0 - y11)) ((x1 - (1 : Int32))) (x3) r12 hu) (va_cwS 4 hts gX8_waysToBring_X8_waysToBring rfl rfl rfl hd_X8_waysToBring.2 ⟨(Nat.le_of_ble_eq_true rfl), (Nat.le_of_ble_eq_true rfl)⟩) (zPS hE hP [0] rfl) rfl rfl hl.1 rfl (lv_room (Nat.le_of_ble_eq_true rfl)) dX8_waysToBring_56 ⟨Nat.zero_le _, Nat.zero_le _⟩) ?_
        refine lv_iadd hx hb dX8_waysToBring_59 ?_
        refine lv_istore (lv' := [(4, .int (x4 + r12)), (6, .int y11), (0, .int x0), (1, .int x1), (2, .ref a_p2), (3, .int x3), (5, .int x5)]) hx hb dX8_waysToBring_60 hl (by decide) rfl (fun ls hl => ?_)
        refine lv_iinc (v := (x5 + (1 : Int32))) (lv' := [(5, .int (x5 + (1 : Int32))), (4, .int (x4 + r12)), (6, .int y11), (0, .int x0), (1, .int x1), (2, .ref a_p2), (3, .int x3)]) hx hb dX8_waysToBring_62 hl (k := 6) rfl rfl (by decide) rfl (fun ls hl => ?_)
        refine lv_goto (tgt := 26) hx hb dX8_waysToBring_65 (by decide) ?_
        exact ih ((x4 + r12)) ((x5 + (1 : Int32))) ls (lv_sub hl [3, 4, 5, 6, 1, 0] rfl) hf
  unfold f_X8_waysToBring_d2 at hf
  refine lv_iload_n hx hb dX8_waysToBring_0 rfl (lv_at hl 1 rfl) ?_
  refine lv_iconst (v := (1 : Int32)) hx hb dX8_waysToBring_1 (by decide) ?_
  refine lv_icmp_lt (tgt := 10) hx hb dX8_waysToBring_2 (by decide) (fun hc13 => ?_) (fun hc13 => ?_)
  · have hf := if_t hf hc13
    exact j10 (g0) ls (lv_sub hl [0] rfl) hf
  · have hf := if_f hf hc13
    refine lv_iload_n hx hb dX8_waysToBring_5 rfl (lv_at hl 1 rfl) ?_
    refine lv_iconst (v := (3 : Int32)) hx hb dX8_waysToBring_6 (by decide) ?_
    refine lv_icmp_le (tgt := 20) hx hb dX8_waysToBring_7 (by decide) (fun hc14 => ?_) (fun hc14 => ?_)
    · have hf := if_t hf hc14
      refine lv_iconst (v := (0 : Int32)) hx hb dX8_waysToBring_20 (by decide) ?_
      refine lv_istore (lv' := [(4, .int (0 : Int32)), (0, .int g0), (1, .int g1), (2, .ref a_p2), (3, .int g3)]) hx hb dX8_waysToBring_21 hl (by decide) rfl (fun ls hl => ?_)
      refine lv_iconst (v := (0 : Int32)) hx hb dX8_waysToBring_23 (by decide) ?_
      refine lv_istore (lv' := [(5, .int (0 : Int32)), (4, .int (0 : Int32)), (0, .int g0), (1, .int g1), (2, .ref a_p2), (3, .int g3)]) hx hb dX8_waysToBring_24 hl (by decide) rfl (fun ls hl => ?_)
      exact j26 (g0) (g1) (g3) zF ((0 : Int32)) ((0 : Int32)) ls (lv_sub hl [2, 3, 4, 5, 1, 0] rfl) hf
    · have hf := if_f hf hc14
      exact j10 (g0) ls (lv_sub hl [0] rfl) hf
def f_X8_waysToBring_d3_b10    (x0 : Int32) : Option (Int32) := if (0 : Int32) < x0 then (some ((0 : Int32))) else (some ((1 : Int32)))
def f_X8_waysToBring_d3_b26 (v_p2 : (Nat → Int32))  (x0 : Int32) (x1 : Int32) (x3 : Int32) : Nat → Int32 → Int32 → Option (Int32)
  | 0, _, _ => none
  | n26 + 1, x4, x5 => if x3 ≤ x5 then (some (x4)) else (gd (inB (((x1 - (1 : Int32)) * (8 : Int32)) + x5) 24) (nm ((v_p2 ((((x1 - (1 : Int32)) * (8 : Int32)) + x5)).toNatClampNeg)) fun y11 => bd1 (f_X8_waysToBring_d2 (v_p2) ((x0 - y11)) ((x1 - (1 : Int32))) (x3)) fun r12 => f_X8_waysToBring_d3_b26 v_p2 x0 x1 x3 n26 ((x4 + r12)) ((x5 + (1 : Int32)))))
def f_X8_waysToBring_d3  (v_p2 : (Nat → Int32)) (g0 : Int32) (g1 : Int32) (g3 : Int32) : Option (Int32) := if g1 < (1 : Int32) then (f_X8_waysToBring_d3_b10 (g0)) else (if g1 ≤ (3 : Int32) then (f_X8_waysToBring_d3_b26 v_p2 (g0) (g1) (g3) zF ((0 : Int32)) ((0 : Int32))) else (f_X8_waysToBring_d3_b10 (g0)))
abbrev rm_X8_waysToBring_d3 : Room := { frames := 3, cells := 0, slots := 0, locals := 78 }
set_option maxHeartbeats 4000000 in
set_option maxRecDepth 100000 in
theorem c_X8_waysToBring_d3 (l : Launch) (G : zG) (a_p2 : Nat) (v_p2 : (Nat → Int32)) (g0 : Int32) (g1 : Int32) (g3 : Int32) (R0 : Int32) (hf : f_X8_waysToBring_d3 v_p2 g0 g1 g3 = some R0) : Met l yX8_waysToBring wsX8_waysToBring rm_X8_waysToBring_d3 (va_Pc [.int g0, .int g1, .ref a_p2, .int g3] (zR G [(a_p2, .inl (G.2.1, 24, .inl v_p2))])) (zSv (some (.int R0))) 0 0 (fun _ => False) := by
  refine Met.ofW (cc := cX8_waysToBring) (maxL := 7) (ret := (some .int)) (by decide) rfl ?_
  intro p e s m args below meth c s₁ B hml hv
  obtain ⟨hargs, hP, hE⟩ := hv
  have hx := B.exec
  have hb := B.bytes
  have hr := B.returns
  have hts := atoms_spec (ws := wsX8_waysToBring) B.pre
  have hown : s.vm.findClass RX8 = some m.cls := findClass_of_methodNamed B.named
  have hlocks := B.notSynchronized
  have hK := hE.1
  have hC : CallFix p m c cX8_waysToBring 7 s args wsX8_waysToBring RX8 := ⟨hx, hb, hml, hown, hts⟩
  have hl := lv_entry ([.int g0, .int g1, .ref a_p2, .int g3]) (n := 7) (Nat.le_of_ble_eq_true rfl)
  have hent : entryFrame m args 7 = F0 m 0 ((lg_sl ([.int g0, .int g1, .ref a_p2, .int g3]) ++ List.replicate (7 - (lg_sl ([.int g0, .int g1, .ref a_p2, .int g3])).length) Slot.unset).toArray) [] := by rw [hargs]; exact lg_entry_eq m [.int g0, .int g1, .ref a_p2, .int g3] 7
  refine W.eq hent ?_
  clear hent
  generalize (lg_sl ([.int g0, .int g1, .ref a_p2, .int g3]) ++ List.replicate (7 - (lg_sl ([.int g0, .int g1, .ref a_p2, .int g3])).length) Slot.unset).toArray = ls at hl ⊢
  have hl : lv_has ls 7 [(0, .int g0), (1, .int g1), (2, .ref a_p2), (3, .int g3)] := hl
  generalize hQ : MQ below _ args s 0 0 _ = QQ
  change W p l e rm_X8_waysToBring_d3 s m args below meth c s.heap [] 0 0 QQ _
  have j10 : ∀ (x0 : Int32), ∀ (ls : Array Slot), lv_has ls 7 [(0, .int x0)] → f_X8_waysToBring_d3_b10 x0 = some R0 → W p l e rm_X8_waysToBring_d3 s m args below meth c s.heap [] 0 0 QQ (F0 m 10 ls []) := by
    intro x0 ls hl hf
    unfold f_X8_waysToBring_d3_b10 at hf
    refine lv_iload_n hx hb dX8_waysToBring_10 rfl (lv_at hl 0 rfl) ?_
    refine lv_if_gt (tgt := 18) hx hb dX8_waysToBring_11 (by decide) (fun hc8 => ?_) (fun hc8 => ?_)
    · have hf := if_t hf hc8
      refine lv_iconst (v := (0 : Int32)) hx hb dX8_waysToBring_18 (by decide) ?_
      have hr0 := so1 hf
      subst hr0
      rw [← hQ]
      exact W.iret (v := (0 : Int32)) hx hb hr (fun t ht hW => ⟨rfl, ht⟩) (fun _ h => by cases h) dX8_waysToBring_19
    · have hf := if_f hf hc8
      refine lv_iconst (v := (1 : Int32)) hx hb dX8_waysToBring_14 (by decide) ?_
      refine lv_goto (tgt := 19) hx hb dX8_waysToBring_15 (by decide) ?_
      have hr0 := so1 hf
      subst hr0
      rw [← hQ]
      exact W.iret (v := (1 : Int32)) hx hb hr (fun t ht hW => ⟨rfl, ht⟩) (fun _ h => by cases h) dX8_waysToBring_19
  have j26 : ∀ (x0 : Int32), ∀ (x1 : Int32), ∀ (x3 : Int32), ∀ (nn : Nat), ∀ (x4 : Int32), ∀ (x5 : Int32), ∀ (ls : Array Slot), lv_has ls 7 [(0, .int x0), (1, .int x1), (2, .ref a_p2), (3, .int x3), (4, .int x4), (5, .int x5)] → f_X8_waysToBring_d3_b26 v_p2 x0 x1 x3 nn x4 x5 = some R0 → W p l e rm_X8_waysToBring_d3 s m args below meth c s.heap [] 0 0 QQ (F0 m 26 ls []) := by
    intro x0 x1 x3
    intro nn
    induction nn with
    | zero =>
      intro x4 x5 ls hl hf
      rw [f_X8_waysToBring_d3_b26] at hf
      cases hf
    | succ n26 ih =>
      intro x4 x5 ls hl hf
      rw [f_X8_waysToBring_d3_b26] at hf
      refine lv_iload hx hb dX8_waysToBring_26 (lv_at hl 5 rfl) ?_
      refine lv_iload_n hx hb dX8_waysToBring_28 rfl (lv_at hl 3 rfl) ?_
      refine lv_icmp_ge (tgt := 68) hx hb dX8_waysToBring_29 (by decide) (fun hc9 => ?_) (fun hc9 => ?_)
      · have hf := if_t hf hc9
        refine lv_iload hx hb dX8_waysToBring_68 (lv_at hl 4 rfl) ?_
        have hr0 := so1 hf
        subst hr0
        rw [← hQ]
        exact W.iret (v := x4) hx hb hr (fun t ht hW => ⟨rfl, ht⟩) (fun _ h => by cases h) dX8_waysToBring_70
      · have hf := if_f hf hc9
        refine lv_aload_n hx hb dX8_waysToBring_32 rfl (lv_at hl 2 rfl) ?_
        refine lv_iload_n hx hb dX8_waysToBring_33 rfl (lv_at hl 1 rfl) ?_
        refine lv_iconst (v := (1 : Int32)) hx hb dX8_waysToBring_34 (by decide) ?_
        refine lv_isub hx hb dX8_waysToBring_35 ?_
        refine lv_bipush (v := (8 : Int32)) hx hb dX8_waysToBring_36 (by decide) ?_
        refine lv_imul hx hb dX8_waysToBring_38 ?_
        refine lv_iload hx hb dX8_waysToBring_39 (lv_at hl 5 rfl) ?_
        refine lv_iadd hx hb dX8_waysToBring_41 ?_
        obtain ⟨hg10, hf⟩ := gd_some hf
        refine va_iald hx hb hK hP 0 0 rfl rfl (inB_in hg10) dX8_waysToBring_42 ?_
        refine lv_topi (fun y11 ey11 => ?_)
        have hf := nm_to hf ey11
        refine lv_istore (lv' := [(6, .int y11), (0, .int x0), (1, .int x1), (2, .ref a_p2), (3, .int x3), (4, .int x4), (5, .int x5)]) hx hb dX8_waysToBring_43 hl (by decide) rfl (fun ls hl => ?_)
        refine lv_iload hx hb dX8_waysToBring_45 (lv_at hl 5 rfl) ?_
        refine lv_iload_n hx hb dX8_waysToBring_47 rfl (lv_at hl 1 rfl) ?_
        refine lv_iload hx hb dX8_waysToBring_48 (lv_at hl 0 rfl) ?_
        refine lv_isub hx hb dX8_waysToBring_50 ?_
        refine lv_iload_n hx hb dX8_waysToBring_51 rfl (lv_at hl 2 rfl) ?_
        refine lv_iconst (v := (1 : Int32)) hx hb dX8_waysToBring_52 (by decide) ?_
        refine lv_isub hx hb dX8_waysToBring_53 ?_
        refine lv_aload_n hx hb dX8_waysToBring_54 rfl (lv_at hl 3 rfl) ?_
        refine lv_iload_n hx hb dX8_waysToBring_55 rfl (lv_at hl 4 rfl) ?_
        obtain ⟨r12, hu, hf⟩ := bd1_some hf
        refine zRi (va_runS (As := [.int (x0 - y11), .int (x1 - (1 : Int32)), .ref a_p2, .int x3]) (rest := [.int x4]) hC (c_X8_waysToBring_d2 l G a_p2 (v_p2) ((x0 - y11)) ((x1 - (1 : Int32))) (x3) r12 hu) (va_cwS 4 hts gX8_waysToBring_X8_waysToBring rfl rfl rfl hd_X8_waysToBring.2 ⟨(Nat.le_of_ble_eq_true rfl), (Nat.le_of_ble_eq_true rfl)⟩) (zPS hE hP [0] rfl) rfl rfl hl.1 rfl (lv_room (Nat.le_of_ble_eq_true rfl)) dX8_waysToBring_56 ⟨Nat.zero_le _, Nat.zero_le _⟩) ?_
        refine lv_iadd hx hb dX8_waysToBring_59 ?_
        refine lv_istore (lv' := [(4, .int (x4 + r12)), (6, .int y11), (0, .int x0), (1, .int x1), (2, .ref a_p2), (3, .int x3), (5, .int x5)]) hx hb dX8_waysToBring_60 hl (by decide) rfl (fun ls hl => ?_)
        refine lv_iinc (v := (x5 + (1 : Int32))) (lv' := [(5, .int (x5 + (1 : Int32))), (4, .int (x4 + r12)), (6, .int y11), (0, .int x0), (1, .int x1), (2, .ref a_p2), (3, .int x3)]) hx hb dX8_waysToBring_62 hl (k := 6) rfl rfl (by decide) rfl (fun ls hl => ?_)
        refine lv_goto (tgt := 26) hx hb dX8_waysToBring_65 (by decide) ?_
        exact ih ((x4 + r12)) ((x5 + (1 : Int32))) ls (lv_sub hl [3, 4, 5, 6, 1, 0] rfl) hf
  unfold f_X8_waysToBring_d3 at hf
  refine lv_iload_n hx hb dX8_waysToBring_0 rfl (lv_at hl 1 rfl) ?_
  refine lv_iconst (v := (1 : Int32)) hx hb dX8_waysToBring_1 (by decide) ?_
  refine lv_icmp_lt (tgt := 10) hx hb dX8_waysToBring_2 (by decide) (fun hc13 => ?_) (fun hc13 => ?_)
  · have hf := if_t hf hc13
    exact j10 (g0) ls (lv_sub hl [0] rfl) hf
  · have hf := if_f hf hc13
    refine lv_iload_n hx hb dX8_waysToBring_5 rfl (lv_at hl 1 rfl) ?_
    refine lv_iconst (v := (3 : Int32)) hx hb dX8_waysToBring_6 (by decide) ?_
    refine lv_icmp_le (tgt := 20) hx hb dX8_waysToBring_7 (by decide) (fun hc14 => ?_) (fun hc14 => ?_)
    · have hf := if_t hf hc14
      refine lv_iconst (v := (0 : Int32)) hx hb dX8_waysToBring_20 (by decide) ?_
      refine lv_istore (lv' := [(4, .int (0 : Int32)), (0, .int g0), (1, .int g1), (2, .ref a_p2), (3, .int g3)]) hx hb dX8_waysToBring_21 hl (by decide) rfl (fun ls hl => ?_)
      refine lv_iconst (v := (0 : Int32)) hx hb dX8_waysToBring_23 (by decide) ?_
      refine lv_istore (lv' := [(5, .int (0 : Int32)), (4, .int (0 : Int32)), (0, .int g0), (1, .int g1), (2, .ref a_p2), (3, .int g3)]) hx hb dX8_waysToBring_24 hl (by decide) rfl (fun ls hl => ?_)
      exact j26 (g0) (g1) (g3) zF ((0 : Int32)) ((0 : Int32)) ls (lv_sub hl [2, 3, 4, 5, 1, 0] rfl) hf
    · have hf := if_f hf hc14
      exact j10 (g0) ls (lv_sub hl [0] rfl) hf
def f_X8_waysToBring_d4_b10    (x0 : Int32) : Option (Int32) := if (0 : Int32) < x0 then (some ((0 : Int32))) else (some ((1 : Int32)))
def f_X8_waysToBring_d4_b26 (v_p2 : (Nat → Int32))  (x0 : Int32) (x1 : Int32) (x3 : Int32) : Nat → Int32 → Int32 → Option (Int32)
  | 0, _, _ => none
  | n26 + 1, x4, x5 => if x3 ≤ x5 then (some (x4)) else (gd (inB (((x1 - (1 : Int32)) * (8 : Int32)) + x5) 24) (nm ((v_p2 ((((x1 - (1 : Int32)) * (8 : Int32)) + x5)).toNatClampNeg)) fun y11 => bd1 (f_X8_waysToBring_d3 (v_p2) ((x0 - y11)) ((x1 - (1 : Int32))) (x3)) fun r12 => f_X8_waysToBring_d4_b26 v_p2 x0 x1 x3 n26 ((x4 + r12)) ((x5 + (1 : Int32)))))
def f_X8_waysToBring_d4  (v_p2 : (Nat → Int32)) (g0 : Int32) (g1 : Int32) (g3 : Int32) : Option (Int32) := if g1 < (1 : Int32) then (f_X8_waysToBring_d4_b10 (g0)) else (if g1 ≤ (3 : Int32) then (f_X8_waysToBring_d4_b26 v_p2 (g0) (g1) (g3) zF ((0 : Int32)) ((0 : Int32))) else (f_X8_waysToBring_d4_b10 (g0)))
abbrev rm_X8_waysToBring_d4 : Room := { frames := 4, cells := 0, slots := 0, locals := 104 }
set_option maxHeartbeats 4000000 in
set_option maxRecDepth 100000 in
theorem c_X8_waysToBring_d4 (l : Launch) (G : zG) (a_p2 : Nat) (v_p2 : (Nat → Int32)) (g0 : Int32) (g1 : Int32) (g3 : Int32) (R0 : Int32) (hf : f_X8_waysToBring_d4 v_p2 g0 g1 g3 = some R0) : Met l yX8_waysToBring wsX8_waysToBring rm_X8_waysToBring_d4 (va_Pc [.int g0, .int g1, .ref a_p2, .int g3] (zR G [(a_p2, .inl (G.2.1, 24, .inl v_p2))])) (zSv (some (.int R0))) 0 0 (fun _ => False) := by
  refine Met.ofW (cc := cX8_waysToBring) (maxL := 7) (ret := (some .int)) (by decide) rfl ?_
  intro p e s m args below meth c s₁ B hml hv
  obtain ⟨hargs, hP, hE⟩ := hv
  have hx := B.exec
  have hb := B.bytes
  have hr := B.returns
  have hts := atoms_spec (ws := wsX8_waysToBring) B.pre
  have hown : s.vm.findClass RX8 = some m.cls := findClass_of_methodNamed B.named
  have hlocks := B.notSynchronized
  have hK := hE.1
  have hC : CallFix p m c cX8_waysToBring 7 s args wsX8_waysToBring RX8 := ⟨hx, hb, hml, hown, hts⟩
  have hl := lv_entry ([.int g0, .int g1, .ref a_p2, .int g3]) (n := 7) (Nat.le_of_ble_eq_true rfl)
  have hent : entryFrame m args 7 = F0 m 0 ((lg_sl ([.int g0, .int g1, .ref a_p2, .int g3]) ++ List.replicate (7 - (lg_sl ([.int g0, .int g1, .ref a_p2, .int g3])).length) Slot.unset).toArray) [] := by rw [hargs]; exact lg_entry_eq m [.int g0, .int g1, .ref a_p2, .int g3] 7
  refine W.eq hent ?_
  clear hent
  generalize (lg_sl ([.int g0, .int g1, .ref a_p2, .int g3]) ++ List.replicate (7 - (lg_sl ([.int g0, .int g1, .ref a_p2, .int g3])).length) Slot.unset).toArray = ls at hl ⊢
  have hl : lv_has ls 7 [(0, .int g0), (1, .int g1), (2, .ref a_p2), (3, .int g3)] := hl
  generalize hQ : MQ below _ args s 0 0 _ = QQ
  change W p l e rm_X8_waysToBring_d4 s m args below meth c s.heap [] 0 0 QQ _
  have j10 : ∀ (x0 : Int32), ∀ (ls : Array Slot), lv_has ls 7 [(0, .int x0)] → f_X8_waysToBring_d4_b10 x0 = some R0 → W p l e rm_X8_waysToBring_d4 s m args below meth c s.heap [] 0 0 QQ (F0 m 10 ls []) := by
    intro x0 ls hl hf
    unfold f_X8_waysToBring_d4_b10 at hf
    refine lv_iload_n hx hb dX8_waysToBring_10 rfl (lv_at hl 0 rfl) ?_
    refine lv_if_gt (tgt := 18) hx hb dX8_waysToBring_11 (by decide) (fun hc8 => ?_) (fun hc8 => ?_)
    · have hf := if_t hf hc8
      refine lv_iconst (v := (0 : Int32)) hx hb dX8_waysToBring_18 (by decide) ?_
      have hr0 := so1 hf
      subst hr0
      rw [← hQ]
      exact W.iret (v := (0 : Int32)) hx hb hr (fun t ht hW => ⟨rfl, ht⟩) (fun _ h => by cases h) dX8_waysToBring_19
    · have hf := if_f hf hc8
      refine lv_iconst (v := (1 : Int32)) hx hb dX8_waysToBring_14 (by decide) ?_
      refine lv_goto (tgt := 19) hx hb dX8_waysToBring_15 (by decide) ?_
      have hr0 := so1 hf
      subst hr0
      rw [← hQ]
      exact W.iret (v := (1 : Int32)) hx hb hr (fun t ht hW => ⟨rfl, ht⟩) (fun _ h => by cases h) dX8_waysToBring_19
  have j26 : ∀ (x0 : Int32), ∀ (x1 : Int32), ∀ (x3 : Int32), ∀ (nn : Nat), ∀ (x4 : Int32), ∀ (x5 : Int32), ∀ (ls : Array Slot), lv_has ls 7 [(0, .int x0), (1, .int x1), (2, .ref a_p2), (3, .int x3), (4, .int x4), (5, .int x5)] → f_X8_waysToBring_d4_b26 v_p2 x0 x1 x3 nn x4 x5 = some R0 → W p l e rm_X8_waysToBring_d4 s m args below meth c s.heap [] 0 0 QQ (F0 m 26 ls []) := by
    intro x0 x1 x3
    intro nn
    induction nn with
    | zero =>
      intro x4 x5 ls hl hf
      rw [f_X8_waysToBring_d4_b26] at hf
      cases hf
    | succ n26 ih =>
      intro x4 x5 ls hl hf
      rw [f_X8_waysToBring_d4_b26] at hf
      refine lv_iload hx hb dX8_waysToBring_26 (lv_at hl 5 rfl) ?_
      refine lv_iload_n hx hb dX8_waysToBring_28 rfl (lv_at hl 3 rfl) ?_
      refine lv_icmp_ge (tgt := 68) hx hb dX8_waysToBring_29 (by decide) (fun hc9 => ?_) (fun hc9 => ?_)
      · have hf := if_t hf hc9
        refine lv_iload hx hb dX8_waysToBring_68 (lv_at hl 4 rfl) ?_
        have hr0 := so1 hf
        subst hr0
        rw [← hQ]
        exact W.iret (v := x4) hx hb hr (fun t ht hW => ⟨rfl, ht⟩) (fun _ h => by cases h) dX8_waysToBring_70
      · have hf := if_f hf hc9
        refine lv_aload_n hx hb dX8_waysToBring_32 rfl (lv_at hl 2 rfl) ?_
        refine lv_iload_n hx hb dX8_waysToBring_33 rfl (lv_at hl 1 rfl) ?_
        refine lv_iconst (v := (1 : Int32)) hx hb dX8_waysToBring_34 (by decide) ?_
        refine lv_isub hx hb dX8_waysToBring_35 ?_
        refine lv_bipush (v := (8 : Int32)) hx hb dX8_waysToBring_36 (by decide) ?_
        refine lv_imul hx hb dX8_waysToBring_38 ?_
        refine lv_iload hx hb dX8_waysToBring_39 (lv_at hl 5 rfl) ?_
        refine lv_iadd hx hb dX8_waysToBring_41 ?_
        obtain ⟨hg10, hf⟩ := gd_some hf
        refine va_iald hx hb hK hP 0 0 rfl rfl (inB_in hg10) dX8_waysToBring_42 ?_
        refine lv_topi (fun y11 ey11 => ?_)
        have hf := nm_to hf ey11
        refine lv_istore (lv' := [(6, .int y11), (0, .int x0), (1, .int x1), (2, .ref a_p2), (3, .int x3), (4, .int x4), (5, .int x5)]) hx hb dX8_waysToBring_43 hl (by decide) rfl (fun ls hl => ?_)
        refine lv_iload hx hb dX8_waysToBring_45 (lv_at hl 5 rfl) ?_
        refine lv_iload_n hx hb dX8_waysToBring_47 rfl (lv_at hl 1 rfl) ?_
        refine lv_iload hx hb dX8_waysToBring_48 (lv_at hl 0 rfl) ?_
        refine lv_isub hx hb dX8_waysToBring_50 ?_
        refine lv_iload_n hx hb dX8_waysToBring_51 rfl (lv_at hl 2 rfl) ?_
        refine lv_iconst (v := (1 : Int32)) hx hb dX8_waysToBring_52 (by decide) ?_
        refine lv_isub hx hb dX8_waysToBring_53 ?_
        refine lv_aload_n hx hb dX8_waysToBring_54 rfl (lv_at hl 3 rfl) ?_
        refine lv_iload_n hx hb dX8_waysToBring_55 rfl (lv_at hl 4 rfl) ?_
        obtain ⟨r12, hu, hf⟩ := bd1_some hf
        refine zRi (va_runS (As := [.int (x0 - y11), .int (x1 - (1 : Int32)), .ref a_p2, .int x3]) (rest := [.int x4]) hC (c_X8_waysToBring_d3 l G a_p2 (v_p2) ((x0 - y11)) ((x1 - (1 : Int32))) (x3) r12 hu) (va_cwS 4 hts gX8_waysToBring_X8_waysToBring rfl rfl rfl hd_X8_waysToBring.2 ⟨(Nat.le_of_ble_eq_true rfl), (Nat.le_of_ble_eq_true rfl)⟩) (zPS hE hP [0] rfl) rfl rfl hl.1 rfl (lv_room (Nat.le_of_ble_eq_true rfl)) dX8_waysToBring_56 ⟨Nat.zero_le _, Nat.zero_le _⟩) ?_
        refine lv_iadd hx hb dX8_waysToBring_59 ?_
        refine lv_istore (lv' := [(4, .int (x4 + r12)), (6, .int y11), (0, .int x0), (1, .int x1), (2, .ref a_p2), (3, .int x3), (5, .int x5)]) hx hb dX8_waysToBring_60 hl (by decide) rfl (fun ls hl => ?_)
        refine lv_iinc (v := (x5 + (1 : Int32))) (lv' := [(5, .int (x5 + (1 : Int32))), (4, .int (x4 + r12)), (6, .int y11), (0, .int x0), (1, .int x1), (2, .ref a_p2), (3, .int x3)]) hx hb dX8_waysToBring_62 hl (k := 6) rfl rfl (by decide) rfl (fun ls hl => ?_)
        refine lv_goto (tgt := 26) hx hb dX8_waysToBring_65 (by decide) ?_
        exact ih ((x4 + r12)) ((x5 + (1 : Int32))) ls (lv_sub hl [3, 4, 5, 6, 1, 0] rfl) hf
  unfold f_X8_waysToBring_d4 at hf
  refine lv_iload_n hx hb dX8_waysToBring_0 rfl (lv_at hl 1 rfl) ?_
  refine lv_iconst (v := (1 : Int32)) hx hb dX8_waysToBring_1 (by decide) ?_
  refine lv_icmp_lt (tgt := 10) hx hb dX8_waysToBring_2 (by decide) (fun hc13 => ?_) (fun hc13 => ?_)
  · have hf := if_t hf hc13
    exact j10 (g0) ls (lv_sub hl [0] rfl) hf
  · have hf := if_f hf hc13
    refine lv_iload_n hx hb dX8_waysToBring_5 rfl (lv_at hl 1 rfl) ?_
    refine lv_iconst (v := (3 : Int32)) hx hb dX8_waysToBring_6 (by decide) ?_
    refine lv_icmp_le (tgt := 20) hx hb dX8_waysToBring_7 (by decide) (fun hc14 => ?_) (fun hc14 => ?_)
    · have hf := if_t hf hc14
      refine lv_iconst (v := (0 : Int32)) hx hb dX8_waysToBring_20 (by decide) ?_
      refine lv_istore (lv' := [(4, .int (0 : Int32)), (0, .int g0), (1, .int g1), (2, .ref a_p2), (3, .int g3)]) hx hb dX8_waysToBring_21 hl (by decide) rfl (fun ls hl => ?_)
      refine lv_iconst (v := (0 : Int32)) hx hb dX8_waysToBring_23 (by decide) ?_
      refine lv_istore (lv' := [(5, .int (0 : Int32)), (4, .int (0 : Int32)), (0, .int g0), (1, .int g1), (2, .ref a_p2), (3, .int g3)]) hx hb dX8_waysToBring_24 hl (by decide) rfl (fun ls hl => ?_)
      exact j26 (g0) (g1) (g3) zF ((0 : Int32)) ((0 : Int32)) ls (lv_sub hl [2, 3, 4, 5, 1, 0] rfl) hf
    · have hf := if_f hf hc14
      exact j10 (g0) ls (lv_sub hl [0] rfl) hf
def f_X8_odds_b69 (v_told_squares : Int32) (v_told_stars : Int32) (v_now_night : Int32) (v_told_paces : (Nat → Int32)) (v_told_starts : (Nat → Int32)) (v_now_leases_size : Int32) (v_now_leases_parts : (Nat → Int32)) (v_told_brights : (Nat → Int32)) (k48 : Int32 → Int32 → (Nat → Int32) → Option (Int32 × (Nat → Int32))) (x1 : Int32) (x5 : Int32) (x6 : Int32) : Nat → Int32 → (Nat → Int32) → Option (Int32 × (Nat → Int32))
  | 0, _, _ => none
  | n69 + 1, x7, v_rents => if v_told_squares ≤ x7 then (k48 (x5) ((x6 + (1 : Int32))) (v_rents)) else (bd1 (f_X8_broughtTo (v_told_squares) (v_told_stars) (v_told_paces) (v_told_starts) (v_now_leases_size) (v_now_leases_parts) (v_told_brights) (x1) ((v_now_night + x6)) (x7)) fun r20 => gd (inB ((x6 * (8 : Int32)) + x7) 24) (nm (upd v_rents (((x6 * (8 : Int32)) + x7)).toNatClampNeg r20) fun y22 => f_X8_odds_b69 v_told_squares v_told_stars v_now_night v_told_paces v_told_starts v_now_leases_size v_now_leases_parts v_told_brights k48 x1 x5 x6 n69 ((x7 + (1 : Int32))) (y22)))
def f_X8_odds_b166    (x7 : Int32) (t0 : Int32) (v_rents : (Nat → Int32)) : Option (Int32 × (Nat → Int32)) := gd (nzB x7) (some ((t0 / x7), v_rents))
def f_X8_odds_b48 (v_told_squares : Int32) (v_told_stars : Int32) (v_now_night : Int32) (v_told_paces : (Nat → Int32)) (v_told_starts : (Nat → Int32)) (v_now_leases_size : Int32) (v_now_leases_parts : (Nat → Int32)) (v_told_brights : (Nat → Int32))  (x1 : Int32) (x2 : Int32) (x3 : Int32) (x4 : Int32) : Nat → Int32 → Int32 → (Nat → Int32) → Option (Int32 × (Nat → Int32))
  | 0, _, _, _ => none
  | n48 + 1, x5, x6, v_rents => if x2 ≤ x6 then (bd1 (f_X8_waysToBring_d4 (v_rents) (x3) (x2) (v_told_squares)) fun r25 => bd1 (f_X8_greatestCommon (x5) (r25)) fun r26 => nm ((if (1 : Int32) < r26 then r26 else (1 : Int32))) fun y27 => if x4 = (0 : Int32) then (f_X8_odds_b166 (y27) (r25) (v_rents)) else (f_X8_odds_b166 (y27) (x5) (v_rents))) else (f_X8_odds_b69 v_told_squares v_told_stars v_now_night v_told_paces v_told_starts v_now_leases_size v_now_leases_parts v_told_brights (f_X8_odds_b48 v_told_squares v_told_stars v_now_night v_told_paces v_told_starts v_now_leases_size v_now_leases_parts v_told_brights x1 x2 x3 x4 n48) (x1) ((x5 * v_told_squares)) (x6) zF ((0 : Int32)) (v_rents))
def f_X8_odds  (v_told_squares : Int32) (v_told_stars : Int32) (v_told_tenants : Int32) (v_rents : (Nat → Int32)) (v_now_night : Int32) (v_told_paces : (Nat → Int32)) (v_told_starts : (Nat → Int32)) (v_now_leases_size : Int32) (v_now_leases_parts : (Nat → Int32)) (v_told_brights : (Nat → Int32)) (g1 : Int32) (g2 : Int32) (g3 : Int32) (g4 : Int32) : Option (Int32 × (Nat → Int32)) := bd1 (f_X5_hasTenant (v_told_tenants) (g1)) fun r29 => if r29 = (0 : Int32) then (some ((-1 : Int32), v_rents)) else (bd1 (f_X8_isWithin (g2) ((1 : Int32)) ((3 : Int32))) fun r31 => if r31 = (0 : Int32) then (some ((-1 : Int32), v_rents)) else (bd1 (f_X8_isWithin (g3) ((0 : Int32)) ((99 : Int32))) fun r33 => if r33 = (0 : Int32) then (some ((-1 : Int32), v_rents)) else (bd1 (f_X8_isWithin (g4) ((0 : Int32)) ((1 : Int32))) fun r35 => if r35 = (0 : Int32) then (some ((-1 : Int32), v_rents)) else (f_X8_odds_b48 v_told_squares v_told_stars v_now_night v_told_paces v_told_starts v_now_leases_size v_now_leases_parts v_told_brights (g1) (g2) (g3) (g4) zF ((1 : Int32)) ((0 : Int32)) (v_rents)))))
abbrev rm_X8_odds : Room := { frames := 5, cells := 0, slots := 0, locals := 130 }
set_option maxHeartbeats 4000000 in
set_option maxRecDepth 100000 in
theorem c_X8_odds (l : Launch) (G : zG) (sz : Nat) (a_this : Nat) (a_this_told : Nat) (a_this_rents : Nat) (a_this_now : Nat) (a_this_told_paces : Nat) (a_this_told_starts : Nat) (a_this_now_leases : Nat) (a_this_now_leases_parts : Nat) (a_this_told_brights : Nat) (a_this_text : Nat) (a_this_reader : Nat) (a_this_draft : Nat) (a_this_firstImage : Nat) (a_this_secondImage : Nat) (a_this_kept : Nat) (a_this_offers : Nat) (a_this_seen : Nat) (a_this_told_purses : Nat) (a_this_told_leases : Nat) (a_this_now_purses : Nat) (a_this_now_past : Nat) (v_traced : Int64) (v_told_squares : Int32) (v_told_stars : Int32) (v_told_tenants : Int32) (v_rents : (Nat → Int32)) (v_now_night : Int32) (v_now_lot : Int32) (v_told_paces : (Nat → Int32)) (v_told_starts : (Nat → Int32)) (v_now_leases_most : Int32) (v_now_leases_size : Int32) (v_now_leases_parts : (Nat → Int32)) (v_told_brights : (Nat → Int32)) (g1 : Int32) (g2 : Int32) (g3 : Int32) (g4 : Int32) (R0 : Int32) (R1 : (Nat → Int32)) (hf : f_X8_odds v_told_squares v_told_stars v_told_tenants v_rents v_now_night v_told_paces v_told_starts v_now_leases_size v_now_leases_parts v_told_brights g1 g2 g3 g4 = some (R0, R1)) : Met l yX8_odds wsX8_odds rm_X8_odds (va_Pc [.ref a_this, .int g1, .int g2, .int g3, .int g4] (zB G [(a_this, .inr (8, [.ref a_this_text, .ref a_this_reader, .ref a_this_told, .ref a_this_draft, .ref a_this_now, .ref a_this_firstImage, .ref a_this_secondImage, .ref a_this_kept, .ref a_this_offers, .ref a_this_seen, .ref a_this_rents, .long v_traced])), (a_this_told, .inr (5, [.int v_told_squares, .int v_told_stars, .ref a_this_told_starts, .ref a_this_told_paces, .ref a_this_told_brights, .int v_told_tenants, .ref a_this_told_purses, .ref a_this_told_leases])), (a_this_rents, .inl (G.2.1, 24, .inl v_rents)), (a_this_now, .inr (0, [.int v_now_night, .int v_now_lot, .ref a_this_now_purses, .ref a_this_now_leases, .ref a_this_now_past])), (a_this_told_paces, .inl (G.2.1, 8, .inl v_told_paces)), (a_this_told_starts, .inl (G.2.1, 8, .inl v_told_starts)), (a_this_now_leases, .inr (6, [.int v_now_leases_most, .ref a_this_now_leases_parts, .int v_now_leases_size])), (a_this_now_leases_parts, .inl (G.2.1, 50, .inl v_now_leases_parts)), (a_this_told_brights, .inl (G.2.1, 8, .inl v_told_brights))] sz)) (zQ G (some (.int R0)) [(a_this, .inr (8, [.ref a_this_text, .ref a_this_reader, .ref a_this_told, .ref a_this_draft, .ref a_this_now, .ref a_this_firstImage, .ref a_this_secondImage, .ref a_this_kept, .ref a_this_offers, .ref a_this_seen, .ref a_this_rents, .long v_traced])), (a_this_told, .inr (5, [.int v_told_squares, .int v_told_stars, .ref a_this_told_starts, .ref a_this_told_paces, .ref a_this_told_brights, .int v_told_tenants, .ref a_this_told_purses, .ref a_this_told_leases])), (a_this_rents, .inl (G.2.1, 24, .inl R1)), (a_this_now, .inr (0, [.int v_now_night, .int v_now_lot, .ref a_this_now_purses, .ref a_this_now_leases, .ref a_this_now_past])), (a_this_told_paces, .inl (G.2.1, 8, .inl v_told_paces)), (a_this_told_starts, .inl (G.2.1, 8, .inl v_told_starts)), (a_this_now_leases, .inr (6, [.int v_now_leases_most, .ref a_this_now_leases_parts, .int v_now_leases_size])), (a_this_now_leases_parts, .inl (G.2.1, 50, .inl v_now_leases_parts)), (a_this_told_brights, .inl (G.2.1, 8, .inl v_told_brights))] (va_A [(a_this, .inr (8, [.ref a_this_text, .ref a_this_reader, .ref a_this_told, .ref a_this_draft, .ref a_this_now, .ref a_this_firstImage, .ref a_this_secondImage, .ref a_this_kept, .ref a_this_offers, .ref a_this_seen, .ref a_this_rents, .long v_traced])), (a_this_told, .inr (5, [.int v_told_squares, .int v_told_stars, .ref a_this_told_starts, .ref a_this_told_paces, .ref a_this_told_brights, .int v_told_tenants, .ref a_this_told_purses, .ref a_this_told_leases])), (a_this_rents, .inl (G.2.1, 24, .inl v_rents)), (a_this_now, .inr (0, [.int v_now_night, .int v_now_lot, .ref a_this_now_purses, .ref a_this_now_leases, .ref a_this_now_past])), (a_this_told_paces, .inl (G.2.1, 8, .inl v_told_paces)), (a_this_told_starts, .inl (G.2.1, 8, .inl v_told_starts)), (a_this_now_leases, .inr (6, [.int v_now_leases_most, .ref a_this_now_leases_parts, .int v_now_leases_size])), (a_this_now_leases_parts, .inl (G.2.1, 50, .inl v_now_leases_parts)), (a_this_told_brights, .inl (G.2.1, 8, .inl v_told_brights))] sz)) 0 0 (va_A [(a_this, .inr (8, [.ref a_this_text, .ref a_this_reader, .ref a_this_told, .ref a_this_draft, .ref a_this_now, .ref a_this_firstImage, .ref a_this_secondImage, .ref a_this_kept, .ref a_this_offers, .ref a_this_seen, .ref a_this_rents, .long v_traced])), (a_this_told, .inr (5, [.int v_told_squares, .int v_told_stars, .ref a_this_told_starts, .ref a_this_told_paces, .ref a_this_told_brights, .int v_told_tenants, .ref a_this_told_purses, .ref a_this_told_leases])), (a_this_rents, .inl (G.2.1, 24, .inl v_rents)), (a_this_now, .inr (0, [.int v_now_night, .int v_now_lot, .ref a_this_now_purses, .ref a_this_now_leases, .ref a_this_now_past])), (a_this_told_paces, .inl (G.2.1, 8, .inl v_told_paces)), (a_this_told_starts, .inl (G.2.1, 8, .inl v_told_starts)), (a_this_now_leases, .inr (6, [.int v_now_leases_most, .ref a_this_now_leases_parts, .int v_now_leases_size])), (a_this_now_leases_parts, .inl (G.2.1, 50, .inl v_now_leases_parts)), (a_this_told_brights, .inl (G.2.1, 8, .inl v_told_brights))] sz) := by
  refine Met.ofW (cc := cX8_odds) (maxL := 8) (ret := (some .int)) (by decide) rfl ?_
  intro p e s m args below meth c s₁ B hml hv
  obtain ⟨hargs, hsz, hP, hD0, hE⟩ := hv
  have hx := B.exec
  have hb := B.bytes
  have hr := B.returns
  have hts := atoms_spec (ws := wsX8_odds) B.pre
  have hown : s.vm.findClass RX8 = some m.cls := findClass_of_methodNamed B.named
  have hlocks := B.notSynchronized
  have hK := hE.1
  have hC : CallFix p m c cX8_odds 8 s args wsX8_odds RX8 := ⟨hx, hb, hml, hown, hts⟩
  have inX0 : ∀ w ∈ wsX00, w ∈ wsX8_odds := by decide +kernel
  have inX5 : ∀ w ∈ wsX50, w ∈ wsX8_odds := by decide +kernel
  have inX8 : ∀ w ∈ wsX80, w ∈ wsX8_odds := by decide +kernel
  have lk26 := hts (.fieldLink RX8 26 "SkyLeases" "told" "LSkyLeases$Sky;") (by decide +kernel)
  have lk36 := hts (.fieldLink RX8 36 "SkyLeases" "now" "LSkyLeases$Now;") (by decide +kernel)
  have lk64 := hts (.fieldLink RX8 64 "SkyLeases" "rents" "[I") (by decide +kernel)
  have lk131 := hts (.fieldLink RX8 131 "SkyLeases$Sky" "squares" "I") (by decide +kernel)
  have lk142 := hts (.fieldLink RX8 142 "SkyLeases$Now" "night" "I") (by decide +kernel)
  subst hsz
  have hD := hD0.self (sz := s.heap.size)
  generalize hAe : va_A [(a_this, .inr (8, [.ref a_this_text, .ref a_this_reader, .ref a_this_told, .ref a_this_draft, .ref a_this_now, .ref a_this_firstImage, .ref a_this_secondImage, .ref a_this_kept, .ref a_this_offers, .ref a_this_seen, .ref a_this_rents, .long v_traced])), (a_this_told, .inr (5, [.int v_told_squares, .int v_told_stars, .ref a_this_told_starts, .ref a_this_told_paces, .ref a_this_told_brights, .int v_told_tenants, .ref a_this_told_purses, .ref a_this_told_leases])), (a_this_rents, .inl (G.2.1, 24, .inl v_rents)), (a_this_now, .inr (0, [.int v_now_night, .int v_now_lot, .ref a_this_now_purses, .ref a_this_now_leases, .ref a_this_now_past])), (a_this_told_paces, .inl (G.2.1, 8, .inl v_told_paces)), (a_this_told_starts, .inl (G.2.1, 8, .inl v_told_starts)), (a_this_now_leases, .inr (6, [.int v_now_leases_most, .ref a_this_now_leases_parts, .int v_now_leases_size])), (a_this_now_leases_parts, .inl (G.2.1, 50, .inl v_now_leases_parts)), (a_this_told_brights, .inl (G.2.1, 8, .inl v_told_brights))] s.heap.size = A at hD ⊢
  have hA : ∀ q : Nat, s.heap.size ≤ q → A q := fun q h => by rw [← hAe]; exact Or.inr h
  have hS : va_S A s.heap s.heap [] := va_S.rf
  have hP : va_P G.1 vwCl [(a_this, .inr (8, [.ref a_this_text, .ref a_this_reader, .ref a_this_told, .ref a_this_draft, .ref a_this_now, .ref a_this_firstImage, .ref a_this_secondImage, .ref a_this_kept, .ref a_this_offers, .ref a_this_seen, .ref a_this_rents, .long v_traced])), (a_this_told, .inr (5, [.int v_told_squares, .int v_told_stars, .ref a_this_told_starts, .ref a_this_told_paces, .ref a_this_told_brights, .int v_told_tenants, .ref a_this_told_purses, .ref a_this_told_leases])), (a_this_rents, .inl (G.2.1, 24, .inl v_rents)), (a_this_now, .inr (0, [.int v_now_night, .int v_now_lot, .ref a_this_now_purses, .ref a_this_now_leases, .ref a_this_now_past])), (a_this_told_paces, .inl (G.2.1, 8, .inl v_told_paces)), (a_this_told_starts, .inl (G.2.1, 8, .inl v_told_starts)), (a_this_now_leases, .inr (6, [.int v_now_leases_most, .ref a_this_now_leases_parts, .int v_now_leases_size])), (a_this_now_leases_parts, .inl (G.2.1, 50, .inl v_now_leases_parts)), (a_this_told_brights, .inl (G.2.1, 8, .inl v_told_brights))] s.heap := hP
  have hl := lv_entry ([.ref a_this, .int g1, .int g2, .int g3, .int g4]) (n := 8) (Nat.le_of_ble_eq_true rfl)
  have hent : entryFrame m args 8 = F0 m 0 ((lg_sl ([.ref a_this, .int g1, .int g2, .int g3, .int g4]) ++ List.replicate (8 - (lg_sl ([.ref a_this, .int g1, .int g2, .int g3, .int g4])).length) Slot.unset).toArray) [] := by rw [hargs]; exact lg_entry_eq m [.ref a_this, .int g1, .int g2, .int g3, .int g4] 8
  refine W.eq hent ?_
  clear hent
  generalize (lg_sl ([.ref a_this, .int g1, .int g2, .int g3, .int g4]) ++ List.replicate (8 - (lg_sl ([.ref a_this, .int g1, .int g2, .int g3, .int g4])).length) Slot.unset).toArray = ls at hl ⊢
  have hl : lv_has ls 8 [(0, .ref a_this), (1, .int g1), (2, .int g2), (3, .int g3), (4, .int g4)] := hl
  generalize hQ : MQ below _ args s 0 0 _ = QQ
  change W p l e rm_X8_odds s m args below meth c s.heap [] 0 0 QQ _
  have j69 : ∀ (x1 : Int32), ∀ (x2 : Int32), ∀ (x3 : Int32), ∀ (x4 : Int32), ∀ (k48 : Int32 → Int32 → (Nat → Int32) → Option (Int32 × (Nat → Int32))), (∀ (x5 : Int32), ∀ (x6 : Int32), ∀ (v_rents : (Nat → Int32)), ∀ (ls : Array Slot), lv_has ls 8 [(0, .ref a_this), (1, .int x1), (2, .int x2), (3, .int x3), (4, .int x4), (5, .int x5), (6, .int x6)] → ∀ (H : Heap) (locs : List Loc), va_P G.1 vwCl [(a_this, .inr (8, [.ref a_this_text, .ref a_this_reader, .ref a_this_told, .ref a_this_draft, .ref a_this_now, .ref a_this_firstImage, .ref a_this_secondImage, .ref a_this_kept, .ref a_this_offers, .ref a_this_seen, .ref a_this_rents, .long v_traced])), (a_this_told, .inr (5, [.int v_told_squares, .int v_told_stars, .ref a_this_told_starts, .ref a_this_told_paces, .ref a_this_told_brights, .int v_told_tenants, .ref a_this_told_purses, .ref a_this_told_leases])), (a_this_rents, .inl (G.2.1, 24, .inl v_rents)), (a_this_now, .inr (0, [.int v_now_night, .int v_now_lot, .ref a_this_now_purses, .ref a_this_now_leases, .ref a_this_now_past])), (a_this_told_paces, .inl (G.2.1, 8, .inl v_told_paces)), (a_this_told_starts, .inl (G.2.1, 8, .inl v_told_starts)), (a_this_now_leases, .inr (6, [.int v_now_leases_most, .ref a_this_now_leases_parts, .int v_now_leases_size])), (a_this_now_leases_parts, .inl (G.2.1, 50, .inl v_now_leases_parts)), (a_this_told_brights, .inl (G.2.1, 8, .inl v_told_brights))] H → va_D A [(a_this, .inr (8, [.ref a_this_text, .ref a_this_reader, .ref a_this_told, .ref a_this_draft, .ref a_this_now, .ref a_this_firstImage, .ref a_this_secondImage, .ref a_this_kept, .ref a_this_offers, .ref a_this_seen, .ref a_this_rents, .long v_traced])), (a_this_told, .inr (5, [.int v_told_squares, .int v_told_stars, .ref a_this_told_starts, .ref a_this_told_paces, .ref a_this_told_brights, .int v_told_tenants, .ref a_this_told_purses, .ref a_this_told_leases])), (a_this_rents, .inl (G.2.1, 24, .inl v_rents)), (a_this_now, .inr (0, [.int v_now_night, .int v_now_lot, .ref a_this_now_purses, .ref a_this_now_leases, .ref a_this_now_past])), (a_this_told_paces, .inl (G.2.1, 8, .inl v_told_paces)), (a_this_told_starts, .inl (G.2.1, 8, .inl v_told_starts)), (a_this_now_leases, .inr (6, [.int v_now_leases_most, .ref a_this_now_leases_parts, .int v_now_leases_size])), (a_this_now_leases_parts, .inl (G.2.1, 50, .inl v_now_leases_parts)), (a_this_told_brights, .inl (G.2.1, 8, .inl v_told_brights))] → va_S A s.heap H locs → k48 x5 x6 v_rents = some (R0, R1) → W p l e rm_X8_odds s m args below meth c H locs 0 0 QQ (F0 m 48 ls [])) → ∀ (x5 : Int32), ∀ (x6 : Int32), ∀ (nn : Nat), ∀ (x7 : Int32), ∀ (v_rents : (Nat → Int32)), ∀ (ls : Array Slot), lv_has ls 8 [(0, .ref a_this), (1, .int x1), (2, .int x2), (3, .int x3), (4, .int x4), (5, .int x5), (6, .int x6), (7, .int x7)] → ∀ (H : Heap) (locs : List Loc), va_P G.1 vwCl [(a_this, .inr (8, [.ref a_this_text, .ref a_this_reader, .ref a_this_told, .ref a_this_draft, .ref a_this_now, .ref a_this_firstImage, .ref a_this_secondImage, .ref a_this_kept, .ref a_this_offers, .ref a_this_seen, .ref a_this_rents, .long v_traced])), (a_this_told, .inr (5, [.int v_told_squares, .int v_told_stars, .ref a_this_told_starts, .ref a_this_told_paces, .ref a_this_told_brights, .int v_told_tenants, .ref a_this_told_purses, .ref a_this_told_leases])), (a_this_rents, .inl (G.2.1, 24, .inl v_rents)), (a_this_now, .inr (0, [.int v_now_night, .int v_now_lot, .ref a_this_now_purses, .ref a_this_now_leases, .ref a_this_now_past])), (a_this_told_paces, .inl (G.2.1, 8, .inl v_told_paces)), (a_this_told_starts, .inl (G.2.1, 8, .inl v_told_starts)), (a_this_now_leases, .inr (6, [.int v_now_leases_most, .ref a_this_now_leases_parts, .int v_now_leases_size])), (a_this_now_leases_parts, .inl (G.2.1, 50, .inl v_now_leases_parts)), (a_this_told_brights, .inl (G.2.1, 8, .inl v_told_brights))] H → va_D A [(a_this, .inr (8, [.ref a_this_text, .ref a_this_reader, .ref a_this_told, .ref a_this_draft, .ref a_this_now, .ref a_this_firstImage, .ref a_this_secondImage, .ref a_this_kept, .ref a_this_offers, .ref a_this_seen, .ref a_this_rents, .long v_traced])), (a_this_told, .inr (5, [.int v_told_squares, .int v_told_stars, .ref a_this_told_starts, .ref a_this_told_paces, .ref a_this_told_brights, .int v_told_tenants, .ref a_this_told_purses, .ref a_this_told_leases])), (a_this_rents, .inl (G.2.1, 24, .inl v_rents)), (a_this_now, .inr (0, [.int v_now_night, .int v_now_lot, .ref a_this_now_purses, .ref a_this_now_leases, .ref a_this_now_past])), (a_this_told_paces, .inl (G.2.1, 8, .inl v_told_paces)), (a_this_told_starts, .inl (G.2.1, 8, .inl v_told_starts)), (a_this_now_leases, .inr (6, [.int v_now_leases_most, .ref a_this_now_leases_parts, .int v_now_leases_size])), (a_this_now_leases_parts, .inl (G.2.1, 50, .inl v_now_leases_parts)), (a_this_told_brights, .inl (G.2.1, 8, .inl v_told_brights))] → va_S A s.heap H locs → f_X8_odds_b69 v_told_squares v_told_stars v_now_night v_told_paces v_told_starts v_now_leases_size v_now_leases_parts v_told_brights k48 x1 x5 x6 nn x7 v_rents = some (R0, R1) → W p l e rm_X8_odds s m args below meth c H locs 0 0 QQ (F0 m 69 ls []) := by
    intro x1 x2 x3 x4 k48 hk48 x5 x6
    intro nn
    induction nn with
    | zero =>
      intro x7 v_rents ls hl H locs hP hD hS hf
      rw [f_X8_odds_b69] at hf
      cases hf
    | succ n69 ih =>
      intro x7 v_rents ls hl H locs hP hD hS hf
      rw [f_X8_odds_b69] at hf
      refine lv_iload hx hb dX8_odds_69 (lv_at hl 7 rfl) ?_
      refine lv_aload_n hx hb dX8_odds_71 rfl (lv_at hl 0 rfl) ?_
      refine va_get (D := G.1) (ci := 8) (v := .ref a_this_told) (C := RX8) (T := TX8) (N := 12) hx hb hts inX8 hown hK hP 0 rfl rfl 2 (by decide) lk26 (fun _ h9 => h9) rfl dX8_odds_72 ?_
      refine va_get (D := G.1) (ci := 5) (v := .int v_told_squares) (C := RX5) (T := TX5) (N := 8) hx hb hts inX5 hown hK hP 1 rfl rfl 0 (by decide) lk131 (fun _ h9 => h9) rfl dX8_odds_75 ?_
      refine lv_icmp_ge (tgt := 117) hx hb dX8_odds_78 (by decide) (fun hc19 => ?_) (fun hc19 => ?_)
      · have hf := if_t hf hc19
        refine lv_iinc (v := (x6 + (1 : Int32))) (lv' := [(6, .int (x6 + (1 : Int32))), (0, .ref a_this), (1, .int x1), (2, .int x2), (3, .int x3), (4, .int x4), (5, .int x5), (7, .int x7)]) hx hb dX8_odds_117 hl (k := 6) rfl rfl (by decide) rfl (fun ls hl => ?_)
        refine lv_goto (tgt := 48) hx hb dX8_odds_120 (by decide) ?_
        exact hk48 (x5) ((x6 + (1 : Int32))) (v_rents) ls (lv_sub hl [1, 2, 3, 4, 5, 6, 0] rfl) _ _ hP hD hS hf
      · have hf := if_f hf hc19
        refine lv_aload_n hx hb dX8_odds_81 rfl (lv_at hl 0 rfl) ?_
        refine va_get (D := G.1) (ci := 8) (v := .ref a_this_rents) (C := RX8) (T := TX8) (N := 12) hx hb hts inX8 hown hK hP 0 rfl rfl 10 (by decide) lk64 (fun _ h9 => h9) rfl dX8_odds_82 ?_
        refine lv_iload hx hb dX8_odds_85 (lv_at hl 6 rfl) ?_
        refine lv_bipush (v := (8 : Int32)) hx hb dX8_odds_87 (by decide) ?_
        refine lv_imul hx hb dX8_odds_89 ?_
        refine lv_iload hx hb dX8_odds_90 (lv_at hl 7 rfl) ?_
        refine lv_iadd hx hb dX8_odds_92 ?_
        refine lv_aload_n hx hb dX8_odds_93 rfl (lv_at hl 0 rfl) ?_
        refine lv_iload_n hx hb dX8_odds_94 rfl (lv_at hl 1 rfl) ?_
        refine lv_aload_n hx hb dX8_odds_95 rfl (lv_at hl 0 rfl) ?_
        refine va_get (D := G.1) (ci := 8) (v := .ref a_this_now) (C := RX8) (T := TX8) (N := 12) hx hb hts inX8 hown hK hP 0 rfl rfl 4 (by decide) lk36 (fun _ h9 => h9) rfl dX8_odds_96 ?_
        refine va_get (D := G.1) (ci := 0) (v := .int v_now_night) (C := RX0) (T := TX0) (N := 5) hx hb hts inX0 hown hK hP 3 rfl rfl 0 (by decide) lk142 (fun _ h9 => h9) rfl dX8_odds_99 ?_
        refine lv_iload hx hb dX8_odds_102 (lv_at hl 6 rfl) ?_
        refine lv_iadd hx hb dX8_odds_104 ?_
        refine lv_iload hx hb dX8_odds_105 (lv_at hl 7 rfl) ?_
        obtain ⟨r20, hu, hf⟩ := bd1_some hf
        refine zRi (va_runV (As := [.int x1, .int (v_now_night + x6), .int x7]) (rest := [.int ((x6 * (8 : Int32)) + x7), .ref a_this_rents]) hC (c_X8_broughtTo l G a_this a_this_told a_this_told_paces a_this_told_starts a_this_now a_this_now_leases a_this_now_leases_parts a_this_told_brights a_this_text a_this_reader a_this_draft a_this_firstImage a_this_secondImage a_this_kept a_this_offers a_this_seen a_this_rents a_this_told_purses a_this_told_leases a_this_now_purses a_this_now_past (v_traced) (v_told_squares) (v_told_stars) (v_told_tenants) (v_told_paces) (v_told_starts) (v_now_night) (v_now_lot) (v_now_leases_most) (v_now_leases_size) (v_now_leases_parts) (v_told_brights) (x1) ((v_now_night + x6)) (x7) r20 hu) (cwV 3 hts gX8_odds_X8_broughtTo rfl rfl rfl hd_X8_broughtTo ⟨(Nat.le_of_ble_eq_true rfl), (Nat.le_of_ble_eq_true rfl)⟩) (zPV hE hP [0, 1, 4, 5, 3, 6, 7, 8] rfl 0 rfl rfl) rfl rfl hl.1 rfl (lv_room (Nat.le_of_ble_eq_true rfl)) dX8_odds_107 ⟨Nat.zero_le _, Nat.zero_le _⟩) ?_
        obtain ⟨hg21, hf⟩ := gd_some hf
        refine z_iast hx hb hK hP hD hS 2 0 rfl rfl (inB_in hg21) dX8_odds_110 (fun gg => [(a_this, .inr (8, [.ref a_this_text, .ref a_this_reader, .ref a_this_told, .ref a_this_draft, .ref a_this_now, .ref a_this_firstImage, .ref a_this_secondImage, .ref a_this_kept, .ref a_this_offers, .ref a_this_seen, .ref a_this_rents, .long v_traced])), (a_this_told, .inr (5, [.int v_told_squares, .int v_told_stars, .ref a_this_told_starts, .ref a_this_told_paces, .ref a_this_told_brights, .int v_told_tenants, .ref a_this_told_purses, .ref a_this_told_leases])), (a_this_rents, .inl (G.2.1, 24, .inl gg)), (a_this_now, .inr (0, [.int v_now_night, .int v_now_lot, .ref a_this_now_purses, .ref a_this_now_leases, .ref a_this_now_past])), (a_this_told_paces, .inl (G.2.1, 8, .inl v_told_paces)), (a_this_told_starts, .inl (G.2.1, 8, .inl v_told_starts)), (a_this_now_leases, .inr (6, [.int v_now_leases_most, .ref a_this_now_leases_parts, .int v_now_leases_size])), (a_this_now_leases_parts, .inl (G.2.1, 50, .inl v_now_leases_parts)), (a_this_told_brights, .inl (G.2.1, 8, .inl v_told_brights))]) (fun gg => rfl) (fun y22 H locs ey22 hP hD hS => ?_)
        have hf := nm_to hf ey22
        have hP : va_P G.1 vwCl [(a_this, .inr (8, [.ref a_this_text, .ref a_this_reader, .ref a_this_told, .ref a_this_draft, .ref a_this_now, .ref a_this_firstImage, .ref a_this_secondImage, .ref a_this_kept, .ref a_this_offers, .ref a_this_seen, .ref a_this_rents, .long v_traced])), (a_this_told, .inr (5, [.int v_told_squares, .int v_told_stars, .ref a_this_told_starts, .ref a_this_told_paces, .ref a_this_told_brights, .int v_told_tenants, .ref a_this_told_purses, .ref a_this_told_leases])), (a_this_rents, .inl (G.2.1, 24, .inl y22)), (a_this_now, .inr (0, [.int v_now_night, .int v_now_lot, .ref a_this_now_purses, .ref a_this_now_leases, .ref a_this_now_past])), (a_this_told_paces, .inl (G.2.1, 8, .inl v_told_paces)), (a_this_told_starts, .inl (G.2.1, 8, .inl v_told_starts)), (a_this_now_leases, .inr (6, [.int v_now_leases_most, .ref a_this_now_leases_parts, .int v_now_leases_size])), (a_this_now_leases_parts, .inl (G.2.1, 50, .inl v_now_leases_parts)), (a_this_told_brights, .inl (G.2.1, 8, .inl v_told_brights))] H := hP
        have hD : va_D A [(a_this, .inr (8, [.ref a_this_text, .ref a_this_reader, .ref a_this_told, .ref a_this_draft, .ref a_this_now, .ref a_this_firstImage, .ref a_this_secondImage, .ref a_this_kept, .ref a_this_offers, .ref a_this_seen, .ref a_this_rents, .long v_traced])), (a_this_told, .inr (5, [.int v_told_squares, .int v_told_stars, .ref a_this_told_starts, .ref a_this_told_paces, .ref a_this_told_brights, .int v_told_tenants, .ref a_this_told_purses, .ref a_this_told_leases])), (a_this_rents, .inl (G.2.1, 24, .inl y22)), (a_this_now, .inr (0, [.int v_now_night, .int v_now_lot, .ref a_this_now_purses, .ref a_this_now_leases, .ref a_this_now_past])), (a_this_told_paces, .inl (G.2.1, 8, .inl v_told_paces)), (a_this_told_starts, .inl (G.2.1, 8, .inl v_told_starts)), (a_this_now_leases, .inr (6, [.int v_now_leases_most, .ref a_this_now_leases_parts, .int v_now_leases_size])), (a_this_now_leases_parts, .inl (G.2.1, 50, .inl v_now_leases_parts)), (a_this_told_brights, .inl (G.2.1, 8, .inl v_told_brights))] := hD
        refine lv_iinc (v := (x7 + (1 : Int32))) (lv' := [(7, .int (x7 + (1 : Int32))), (0, .ref a_this), (1, .int x1), (2, .int x2), (3, .int x3), (4, .int x4), (5, .int x5), (6, .int x6)]) hx hb dX8_odds_111 hl (k := 7) rfl rfl (by decide) rfl (fun ls hl => ?_)
        refine lv_goto (tgt := 69) hx hb dX8_odds_114 (by decide) ?_
        exact ih ((x7 + (1 : Int32))) (y22) ls (lv_sub hl [1, 2, 3, 4, 5, 6, 7, 0] rfl) _ _ hP hD hS hf
  have j166 : ∀ (x7 : Int32), ∀ (t0 : Int32), ∀ (v_rents : (Nat → Int32)), ∀ (ls : Array Slot), lv_has ls 8 [(7, .int x7)] → ∀ (H : Heap) (locs : List Loc), va_P G.1 vwCl [(a_this, .inr (8, [.ref a_this_text, .ref a_this_reader, .ref a_this_told, .ref a_this_draft, .ref a_this_now, .ref a_this_firstImage, .ref a_this_secondImage, .ref a_this_kept, .ref a_this_offers, .ref a_this_seen, .ref a_this_rents, .long v_traced])), (a_this_told, .inr (5, [.int v_told_squares, .int v_told_stars, .ref a_this_told_starts, .ref a_this_told_paces, .ref a_this_told_brights, .int v_told_tenants, .ref a_this_told_purses, .ref a_this_told_leases])), (a_this_rents, .inl (G.2.1, 24, .inl v_rents)), (a_this_now, .inr (0, [.int v_now_night, .int v_now_lot, .ref a_this_now_purses, .ref a_this_now_leases, .ref a_this_now_past])), (a_this_told_paces, .inl (G.2.1, 8, .inl v_told_paces)), (a_this_told_starts, .inl (G.2.1, 8, .inl v_told_starts)), (a_this_now_leases, .inr (6, [.int v_now_leases_most, .ref a_this_now_leases_parts, .int v_now_leases_size])), (a_this_now_leases_parts, .inl (G.2.1, 50, .inl v_now_leases_parts)), (a_this_told_brights, .inl (G.2.1, 8, .inl v_told_brights))] H → va_D A [(a_this, .inr (8, [.ref a_this_text, .ref a_this_reader, .ref a_this_told, .ref a_this_draft, .ref a_this_now, .ref a_this_firstImage, .ref a_this_secondImage, .ref a_this_kept, .ref a_this_offers, .ref a_this_seen, .ref a_this_rents, .long v_traced])), (a_this_told, .inr (5, [.int v_told_squares, .int v_told_stars, .ref a_this_told_starts, .ref a_this_told_paces, .ref a_this_told_brights, .int v_told_tenants, .ref a_this_told_purses, .ref a_this_told_leases])), (a_this_rents, .inl (G.2.1, 24, .inl v_rents)), (a_this_now, .inr (0, [.int v_now_night, .int v_now_lot, .ref a_this_now_purses, .ref a_this_now_leases, .ref a_this_now_past])), (a_this_told_paces, .inl (G.2.1, 8, .inl v_told_paces)), (a_this_told_starts, .inl (G.2.1, 8, .inl v_told_starts)), (a_this_now_leases, .inr (6, [.int v_now_leases_most, .ref a_this_now_leases_parts, .int v_now_leases_size])), (a_this_now_leases_parts, .inl (G.2.1, 50, .inl v_now_leases_parts)), (a_this_told_brights, .inl (G.2.1, 8, .inl v_told_brights))] → va_S A s.heap H locs → f_X8_odds_b166 x7 t0 v_rents = some (R0, R1) → W p l e rm_X8_odds s m args below meth c H locs 0 0 QQ (F0 m 166 ls [.int t0]) := by
    intro x7 t0 v_rents ls hl H locs hP hD hS hf
    unfold f_X8_odds_b166 at hf
    refine lv_iload hx hb dX8_odds_166 (lv_at hl 0 rfl) ?_
    obtain ⟨hg23, hf⟩ := gd_some hf
    refine lv_idiv hx hb dX8_odds_168 (nzB_ne hg23) ?_
    obtain ⟨hr0, hr1⟩ := so2 hf
    subst hr0
    subst hr1
    rw [← hQ]
    exact W.iret (v := (t0 / x7)) hx hb hr (fun t ht hW => ⟨⟨rfl, by rw [ht]; exact hP⟩, hS.F ht⟩) hS.2.2 dX8_odds_169
  have j48 : ∀ (x1 : Int32), ∀ (x2 : Int32), ∀ (x3 : Int32), ∀ (x4 : Int32), ∀ (nn : Nat), ∀ (x5 : Int32), ∀ (x6 : Int32), ∀ (v_rents : (Nat → Int32)), ∀ (ls : Array Slot), lv_has ls 8 [(0, .ref a_this), (1, .int x1), (2, .int x2), (3, .int x3), (4, .int x4), (5, .int x5), (6, .int x6)] → ∀ (H : Heap) (locs : List Loc), va_P G.1 vwCl [(a_this, .inr (8, [.ref a_this_text, .ref a_this_reader, .ref a_this_told, .ref a_this_draft, .ref a_this_now, .ref a_this_firstImage, .ref a_this_secondImage, .ref a_this_kept, .ref a_this_offers, .ref a_this_seen, .ref a_this_rents, .long v_traced])), (a_this_told, .inr (5, [.int v_told_squares, .int v_told_stars, .ref a_this_told_starts, .ref a_this_told_paces, .ref a_this_told_brights, .int v_told_tenants, .ref a_this_told_purses, .ref a_this_told_leases])), (a_this_rents, .inl (G.2.1, 24, .inl v_rents)), (a_this_now, .inr (0, [.int v_now_night, .int v_now_lot, .ref a_this_now_purses, .ref a_this_now_leases, .ref a_this_now_past])), (a_this_told_paces, .inl (G.2.1, 8, .inl v_told_paces)), (a_this_told_starts, .inl (G.2.1, 8, .inl v_told_starts)), (a_this_now_leases, .inr (6, [.int v_now_leases_most, .ref a_this_now_leases_parts, .int v_now_leases_size])), (a_this_now_leases_parts, .inl (G.2.1, 50, .inl v_now_leases_parts)), (a_this_told_brights, .inl (G.2.1, 8, .inl v_told_brights))] H → va_D A [(a_this, .inr (8, [.ref a_this_text, .ref a_this_reader, .ref a_this_told, .ref a_this_draft, .ref a_this_now, .ref a_this_firstImage, .ref a_this_secondImage, .ref a_this_kept, .ref a_this_offers, .ref a_this_seen, .ref a_this_rents, .long v_traced])), (a_this_told, .inr (5, [.int v_told_squares, .int v_told_stars, .ref a_this_told_starts, .ref a_this_told_paces, .ref a_this_told_brights, .int v_told_tenants, .ref a_this_told_purses, .ref a_this_told_leases])), (a_this_rents, .inl (G.2.1, 24, .inl v_rents)), (a_this_now, .inr (0, [.int v_now_night, .int v_now_lot, .ref a_this_now_purses, .ref a_this_now_leases, .ref a_this_now_past])), (a_this_told_paces, .inl (G.2.1, 8, .inl v_told_paces)), (a_this_told_starts, .inl (G.2.1, 8, .inl v_told_starts)), (a_this_now_leases, .inr (6, [.int v_now_leases_most, .ref a_this_now_leases_parts, .int v_now_leases_size])), (a_this_now_leases_parts, .inl (G.2.1, 50, .inl v_now_leases_parts)), (a_this_told_brights, .inl (G.2.1, 8, .inl v_told_brights))] → va_S A s.heap H locs → f_X8_odds_b48 v_told_squares v_told_stars v_now_night v_told_paces v_told_starts v_now_leases_size v_now_leases_parts v_told_brights x1 x2 x3 x4 nn x5 x6 v_rents = some (R0, R1) → W p l e rm_X8_odds s m args below meth c H locs 0 0 QQ (F0 m 48 ls []) := by
    intro x1 x2 x3 x4
    intro nn
    induction nn with
    | zero =>
      intro x5 x6 v_rents ls hl H locs hP hD hS hf
      rw [f_X8_odds_b48] at hf
      cases hf
    | succ n48 ih =>
      intro x5 x6 v_rents ls hl H locs hP hD hS hf
      rw [f_X8_odds_b48] at hf
      refine lv_iload hx hb dX8_odds_48 (lv_at hl 6 rfl) ?_
      refine lv_iload_n hx hb dX8_odds_50 rfl (lv_at hl 2 rfl) ?_
      refine lv_icmp_ge (tgt := 123) hx hb dX8_odds_51 (by decide) (fun hc24 => ?_) (fun hc24 => ?_)
      · have hf := if_t hf hc24
        refine lv_iload_n hx hb dX8_odds_123 rfl (lv_at hl 3 rfl) ?_
        refine lv_iload_n hx hb dX8_odds_124 rfl (lv_at hl 2 rfl) ?_
        refine lv_aload_n hx hb dX8_odds_125 rfl (lv_at hl 0 rfl) ?_
        refine va_get (D := G.1) (ci := 8) (v := .ref a_this_rents) (C := RX8) (T := TX8) (N := 12) hx hb hts inX8 hown hK hP 0 rfl rfl 10 (by decide) lk64 (fun _ h9 => h9) rfl dX8_odds_126 ?_
        refine lv_aload_n hx hb dX8_odds_129 rfl (lv_at hl 0 rfl) ?_
        refine va_get (D := G.1) (ci := 8) (v := .ref a_this_told) (C := RX8) (T := TX8) (N := 12) hx hb hts inX8 hown hK hP 0 rfl rfl 2 (by decide) lk26 (fun _ h9 => h9) rfl dX8_odds_130 ?_
        refine va_get (D := G.1) (ci := 5) (v := .int v_told_squares) (C := RX5) (T := TX5) (N := 8) hx hb hts inX5 hown hK hP 1 rfl rfl 0 (by decide) lk131 (fun _ h9 => h9) rfl dX8_odds_133 ?_
        obtain ⟨r25, hu, hf⟩ := bd1_some hf
        refine zRi (va_runS (As := [.int x3, .int x2, .ref a_this_rents, .int v_told_squares]) (rest := []) hC (c_X8_waysToBring_d4 l G a_this_rents (v_rents) (x3) (x2) (v_told_squares) r25 hu) (va_cwS 4 hts gX8_odds_X8_waysToBring rfl rfl rfl hd_X8_waysToBring.2 ⟨(Nat.le_of_ble_eq_true rfl), (Nat.le_of_ble_eq_true rfl)⟩) (zPS hE hP [2] rfl) rfl rfl hl.1 rfl (lv_room (Nat.le_of_ble_eq_true rfl)) dX8_odds_136 ⟨Nat.zero_le _, Nat.zero_le _⟩) ?_
        refine lv_istore (lv' := [(6, .int r25), (0, .ref a_this), (1, .int x1), (2, .int x2), (3, .int x3), (4, .int x4), (5, .int x5)]) hx hb dX8_odds_139 hl (by decide) rfl (fun ls hl => ?_)
        refine lv_iconst (v := (1 : Int32)) hx hb dX8_odds_141 (by decide) ?_
        refine lv_iload hx hb dX8_odds_142 (lv_at hl 6 rfl) ?_
        refine lv_iload hx hb dX8_odds_144 (lv_at hl 0 rfl) ?_
        obtain ⟨r26, hu, hf⟩ := bd1_some hf
        refine zRi (va_runS (As := [.int x5, .int r25]) (rest := [.int (1 : Int32)]) hC (c_X8_greatestCommon l G (x5) (r25) r26 hu) (va_cwS 2 hts gX8_odds_X8_greatestCommon rfl rfl rfl hd_X8_greatestCommon.2 ⟨(Nat.le_of_ble_eq_true rfl), (Nat.le_of_ble_eq_true rfl)⟩) (zPS hE hP [] rfl) rfl rfl hl.1 rfl (lv_room (Nat.le_of_ble_eq_true rfl)) dX8_odds_146 ⟨Nat.zero_le _, Nat.zero_le _⟩) ?_
        refine va_mmax hx hb (by rw [hml]; exact hl.1.symm) hown (hts (.methodLink RX8 233 Lib.Math.max.name) (by decide +kernel)) (hts (.static Lib.Math.max.name) (by decide +kernel)) (hts (.initialized "java/lang/Math") (by decide +kernel)) (hts (.code Lib.Math.max.name Lib.Math.max.code 2 (some .int)) (by decide +kernel)) (Nat.le_of_ble_eq_true rfl) (Nat.le_of_ble_eq_true rfl) (Nat.zero_le _) (Nat.zero_le _) dX8_odds_149 ?_
        refine lv_topi (fun y27 ey27 => ?_)
        have hf := nm_to hf ey27
        refine lv_istore (lv' := [(7, .int y27), (6, .int r25), (0, .ref a_this), (1, .int x1), (2, .int x2), (3, .int x3), (4, .int x4), (5, .int x5)]) hx hb dX8_odds_152 hl (by decide) rfl (fun ls hl => ?_)
        refine lv_iload hx hb dX8_odds_154 (lv_at hl 6 rfl) ?_
        refine lv_if_ne (tgt := 164) hx hb dX8_odds_156 (by decide) (fun hc28 => ?_) (fun hc28 => ?_)
        · have hf := if_f hf hc28
          refine lv_iload hx hb dX8_odds_164 (lv_at hl 7 rfl) ?_
          exact j166 (y27) (x5) (v_rents) ls (lv_sub hl [0] rfl) _ _ hP hD hS hf
        · have hf := if_t hf hc28
          refine lv_iload hx hb dX8_odds_159 (lv_at hl 1 rfl) ?_
          refine lv_goto (tgt := 166) hx hb dX8_odds_161 (by decide) ?_
          exact j166 (y27) (r25) (v_rents) ls (lv_sub hl [0] rfl) _ _ hP hD hS hf
      · have hf := if_f hf hc24
        refine lv_iload hx hb dX8_odds_54 (lv_at hl 5 rfl) ?_
        refine lv_aload_n hx hb dX8_odds_56 rfl (lv_at hl 0 rfl) ?_
        refine va_get (D := G.1) (ci := 8) (v := .ref a_this_told) (C := RX8) (T := TX8) (N := 12) hx hb hts inX8 hown hK hP 0 rfl rfl 2 (by decide) lk26 (fun _ h9 => h9) rfl dX8_odds_57 ?_
        refine va_get (D := G.1) (ci := 5) (v := .int v_told_squares) (C := RX5) (T := TX5) (N := 8) hx hb hts inX5 hown hK hP 1 rfl rfl 0 (by decide) lk131 (fun _ h9 => h9) rfl dX8_odds_60 ?_
        refine lv_imul hx hb dX8_odds_63 ?_
        refine lv_istore (lv' := [(5, .int (x5 * v_told_squares)), (0, .ref a_this), (1, .int x1), (2, .int x2), (3, .int x3), (4, .int x4), (6, .int x6)]) hx hb dX8_odds_64 hl (by decide) rfl (fun ls hl => ?_)
        refine lv_iconst (v := (0 : Int32)) hx hb dX8_odds_66 (by decide) ?_
        refine lv_istore (lv' := [(7, .int (0 : Int32)), (5, .int (x5 * v_told_squares)), (0, .ref a_this), (1, .int x1), (2, .int x2), (3, .int x3), (4, .int x4), (6, .int x6)]) hx hb dX8_odds_67 hl (by decide) rfl (fun ls hl => ?_)
        exact j69 (x1) (x2) (x3) (x4) (f_X8_odds_b48 v_told_squares v_told_stars v_now_night v_told_paces v_told_starts v_now_leases_size v_now_leases_parts v_told_brights x1 x2 x3 x4 n48) ih ((x5 * v_told_squares)) (x6) zF ((0 : Int32)) (v_rents) ls (lv_sub hl [2, 3, 4, 5, 6, 1, 7, 0] rfl) _ _ hP hD hS hf
  have hSH := hS
  unfold f_X8_odds at hf
  refine lv_aload_n hx hb dX8_odds_0 rfl (lv_at hl 0 rfl) ?_
  refine va_get (D := G.1) (ci := 8) (v := .ref a_this_told) (C := RX8) (T := TX8) (N := 12) hx hb hts inX8 hown hK hP 0 rfl rfl 2 (by decide) lk26 (fun _ h9 => h9) rfl dX8_odds_1 ?_
  refine lv_iload_n hx hb dX8_odds_4 rfl (lv_at hl 1 rfl) ?_
  obtain ⟨r29, hu, hf⟩ := bd1_some hf
  refine zRi (va_runV (As := [.int g1]) (rest := []) hC (c_X5_hasTenant l G a_this_told a_this_told_starts a_this_told_paces a_this_told_brights a_this_told_purses a_this_told_leases (v_told_squares) (v_told_stars) (v_told_tenants) (g1) r29 hu) (cwV 1 hts gX8_odds_X5_hasTenant rfl rfl rfl hd_X5_hasTenant ⟨(Nat.le_of_ble_eq_true rfl), (Nat.le_of_ble_eq_true rfl)⟩) (zPV hE hP [1] rfl 1 rfl rfl) rfl rfl hl.1 rfl (lv_room (Nat.le_of_ble_eq_true rfl)) dX8_odds_5 ⟨Nat.zero_le _, Nat.zero_le _⟩) ?_
  refine lv_if_eq (tgt := 40) hx hb dX8_odds_8 (by decide) (fun hc30 => ?_) (fun hc30 => ?_)
  · have hf := if_t hf hc30
    refine lv_iconst (v := (-1 : Int32)) hx hb dX8_odds_40 (by decide) ?_
    obtain ⟨hr0, hr1⟩ := so2 hf
    subst hr0
    subst hr1
    rw [← hQ]
    exact W.iret (v := (-1 : Int32)) hx hb hr (fun t ht hW => ⟨⟨rfl, by rw [ht]; exact hP⟩, hS.F ht⟩) hS.2.2 dX8_odds_41
  · have hf := if_f hf hc30
    refine lv_iload_n hx hb dX8_odds_11 rfl (lv_at hl 2 rfl) ?_
    refine lv_iconst (v := (1 : Int32)) hx hb dX8_odds_12 (by decide) ?_
    refine lv_iconst (v := (3 : Int32)) hx hb dX8_odds_13 (by decide) ?_
    obtain ⟨r31, hu, hf⟩ := bd1_some hf
    refine zRi (va_runS (As := [.int g2, .int (1 : Int32), .int (3 : Int32)]) (rest := []) hC (c_X8_isWithin l G (g2) ((1 : Int32)) ((3 : Int32)) r31 hu) (va_cwS 3 hts gX8_odds_X8_isWithin rfl rfl rfl hd_X8_isWithin.2 ⟨(Nat.le_of_ble_eq_true rfl), (Nat.le_of_ble_eq_true rfl)⟩) (zPS hE hP [] rfl) rfl rfl hl.1 rfl (lv_room (Nat.le_of_ble_eq_true rfl)) dX8_odds_14 ⟨Nat.zero_le _, Nat.zero_le _⟩) ?_
    refine lv_if_eq (tgt := 40) hx hb dX8_odds_17 (by decide) (fun hc32 => ?_) (fun hc32 => ?_)
    · have hf := if_t hf hc32
      refine lv_iconst (v := (-1 : Int32)) hx hb dX8_odds_40 (by decide) ?_
      obtain ⟨hr0, hr1⟩ := so2 hf
      subst hr0
      subst hr1
      rw [← hQ]
      exact W.iret (v := (-1 : Int32)) hx hb hr (fun t ht hW => ⟨⟨rfl, by rw [ht]; exact hP⟩, hS.F ht⟩) hS.2.2 dX8_odds_41
    · have hf := if_f hf hc32
      refine lv_iload_n hx hb dX8_odds_20 rfl (lv_at hl 3 rfl) ?_
      refine lv_iconst (v := (0 : Int32)) hx hb dX8_odds_21 (by decide) ?_
      refine lv_bipush (v := (99 : Int32)) hx hb dX8_odds_22 (by decide) ?_
      obtain ⟨r33, hu, hf⟩ := bd1_some hf
      refine zRi (va_runS (As := [.int g3, .int (0 : Int32), .int (99 : Int32)]) (rest := []) hC (c_X8_isWithin l G (g3) ((0 : Int32)) ((99 : Int32)) r33 hu) (va_cwS 3 hts gX8_odds_X8_isWithin rfl rfl rfl hd_X8_isWithin.2 ⟨(Nat.le_of_ble_eq_true rfl), (Nat.le_of_ble_eq_true rfl)⟩) (zPS hE hP [] rfl) rfl rfl hl.1 rfl (lv_room (Nat.le_of_ble_eq_true rfl)) dX8_odds_24 ⟨Nat.zero_le _, Nat.zero_le _⟩) ?_
      refine lv_if_eq (tgt := 40) hx hb dX8_odds_27 (by decide) (fun hc34 => ?_) (fun hc34 => ?_)
      · have hf := if_t hf hc34
        refine lv_iconst (v := (-1 : Int32)) hx hb dX8_odds_40 (by decide) ?_
        obtain ⟨hr0, hr1⟩ := so2 hf
        subst hr0
        subst hr1
        rw [← hQ]
        exact W.iret (v := (-1 : Int32)) hx hb hr (fun t ht hW => ⟨⟨rfl, by rw [ht]; exact hP⟩, hS.F ht⟩) hS.2.2 dX8_odds_41
      · have hf := if_f hf hc34
        refine lv_iload hx hb dX8_odds_30 (lv_at hl 4 rfl) ?_
        refine lv_iconst (v := (0 : Int32)) hx hb dX8_odds_32 (by decide) ?_
        refine lv_iconst (v := (1 : Int32)) hx hb dX8_odds_33 (by decide) ?_
        obtain ⟨r35, hu, hf⟩ := bd1_some hf
        refine zRi (va_runS (As := [.int g4, .int (0 : Int32), .int (1 : Int32)]) (rest := []) hC (c_X8_isWithin l G (g4) ((0 : Int32)) ((1 : Int32)) r35 hu) (va_cwS 3 hts gX8_odds_X8_isWithin rfl rfl rfl hd_X8_isWithin.2 ⟨(Nat.le_of_ble_eq_true rfl), (Nat.le_of_ble_eq_true rfl)⟩) (zPS hE hP [] rfl) rfl rfl hl.1 rfl (lv_room (Nat.le_of_ble_eq_true rfl)) dX8_odds_34 ⟨Nat.zero_le _, Nat.zero_le _⟩) ?_
        refine lv_if_ne (tgt := 42) hx hb dX8_odds_37 (by decide) (fun hc36 => ?_) (fun hc36 => ?_)
        · have hf := if_f hf hc36
          refine lv_iconst (v := (1 : Int32)) hx hb dX8_odds_42 (by decide) ?_
          refine lv_istore (lv' := [(5, .int (1 : Int32)), (0, .ref a_this), (1, .int g1), (2, .int g2), (3, .int g3), (4, .int g4)]) hx hb dX8_odds_43 hl (by decide) rfl (fun ls hl => ?_)
          refine lv_iconst (v := (0 : Int32)) hx hb dX8_odds_45 (by decide) ?_
          refine lv_istore (lv' := [(6, .int (0 : Int32)), (5, .int (1 : Int32)), (0, .ref a_this), (1, .int g1), (2, .int g2), (3, .int g3), (4, .int g4)]) hx hb dX8_odds_46 hl (by decide) rfl (fun ls hl => ?_)
          exact j48 (g1) (g2) (g3) (g4) zF ((1 : Int32)) ((0 : Int32)) (v_rents) ls (lv_sub hl [2, 3, 4, 5, 6, 1, 0] rfl) _ _ hP hD hS hf
        · have hf := if_t hf hc36
          refine lv_iconst (v := (-1 : Int32)) hx hb dX8_odds_40 (by decide) ?_
          obtain ⟨hr0, hr1⟩ := so2 hf
          subst hr0
          subst hr1
          rw [← hQ]
          exact W.iret (v := (-1 : Int32)) hx hb hr (fun t ht hW => ⟨⟨rfl, by rw [ht]; exact hP⟩, hS.F ht⟩) hS.2.2 dX8_odds_41
